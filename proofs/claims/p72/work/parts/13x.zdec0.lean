theorem dX0_clear_0 : decode cX0_clear 0 = .ok (.aload_n 0, 1) := by decide +kernel
theorem dX0_clear_1 : decode cX0_clear 1 = .ok (.iconst 0, 1) := by decide +kernel
theorem dX0_clear_2 : decode cX0_clear 2 = .ok (.putfield 32, 3) := by decide +kernel
theorem dX0_clear_5 : decode cX0_clear 5 = .ok (.aload_n 0, 1) := by decide +kernel
theorem dX0_clear_6 : decode cX0_clear 6 = .ok (.iconst 0, 1) := by decide +kernel
theorem dX0_clear_7 : decode cX0_clear 7 = .ok (.putfield 36, 3) := by decide +kernel
theorem dX0_clear_10 : decode cX0_clear 10 = .ok (.aload_n 0, 1) := by decide +kernel
theorem dX0_clear_11 : decode cX0_clear 11 = .ok (.iconst 0, 1) := by decide +kernel
theorem dX0_clear_12 : decode cX0_clear 12 = .ok (.putfield 39, 3) := by decide +kernel
theorem dX0_clear_15 : decode cX0_clear 15 = .ok (.aload_n 0, 1) := by decide +kernel
theorem dX0_clear_16 : decode cX0_clear 16 = .ok (.iconst 0, 1) := by decide +kernel
theorem dX0_clear_17 : decode cX0_clear 17 = .ok (.putfield 42, 3) := by decide +kernel
theorem dX0_clear_20 : decode cX0_clear 20 = .ok (.aload_n 0, 1) := by decide +kernel
theorem dX0_clear_21 : decode cX0_clear 21 = .ok (.iconst 0, 1) := by decide +kernel
theorem dX0_clear_22 : decode cX0_clear 22 = .ok (.putfield 45, 3) := by decide +kernel
theorem dX0_clear_25 : decode cX0_clear 25 = .ok (.aload_n 0, 1) := by decide +kernel
theorem dX0_clear_26 : decode cX0_clear 26 = .ok (.getfield 14, 3) := by decide +kernel
theorem dX0_clear_29 : decode cX0_clear 29 = .ok (.invokevirtual 48, 3) := by decide +kernel
theorem dX0_clear_32 : decode cX0_clear 32 = .ok (.aload_n 0, 1) := by decide +kernel
theorem dX0_clear_33 : decode cX0_clear 33 = .ok (.getfield 20, 3) := by decide +kernel
theorem dX0_clear_36 : decode cX0_clear 36 = .ok (.invokevirtual 48, 3) := by decide +kernel
theorem dX0_clear_39 : decode cX0_clear 39 = .ok (.aload_n 0, 1) := by decide +kernel
theorem dX0_clear_40 : decode cX0_clear 40 = .ok (.getfield 23, 3) := by decide +kernel
theorem dX0_clear_43 : decode cX0_clear 43 = .ok (.invokevirtual 48, 3) := by decide +kernel
theorem dX0_clear_46 : decode cX0_clear 46 = .ok (.aload_n 0, 1) := by decide +kernel
theorem dX0_clear_47 : decode cX0_clear 47 = .ok (.getfield 26, 3) := by decide +kernel
theorem dX0_clear_50 : decode cX0_clear 50 = .ok (.invokevirtual 48, 3) := by decide +kernel
theorem dX0_clear_53 : decode cX0_clear 53 = .ok (.aload_n 0, 1) := by decide +kernel
theorem dX0_clear_54 : decode cX0_clear 54 = .ok (.getfield 29, 3) := by decide +kernel
theorem dX0_clear_57 : decode cX0_clear 57 = .ok (.invokevirtual 48, 3) := by decide +kernel
theorem dX0_clear_60 : decode cX0_clear 60 = .ok (.return_, 1) := by decide +kernel
theorem dX0_copyFrom_0 : decode cX0_copyFrom 0 = .ok (.aload_n 0, 1) := by decide +kernel
theorem dX0_copyFrom_1 : decode cX0_copyFrom 1 = .ok (.aload_n 1, 1) := by decide +kernel
theorem dX0_copyFrom_2 : decode cX0_copyFrom 2 = .ok (.getfield 32, 3) := by decide +kernel
theorem dX0_copyFrom_5 : decode cX0_copyFrom 5 = .ok (.putfield 32, 3) := by decide +kernel
theorem dX0_copyFrom_8 : decode cX0_copyFrom 8 = .ok (.aload_n 0, 1) := by decide +kernel
theorem dX0_copyFrom_9 : decode cX0_copyFrom 9 = .ok (.aload_n 1, 1) := by decide +kernel
theorem dX0_copyFrom_10 : decode cX0_copyFrom 10 = .ok (.getfield 36, 3) := by decide +kernel
theorem dX0_copyFrom_13 : decode cX0_copyFrom 13 = .ok (.putfield 36, 3) := by decide +kernel
theorem dX0_copyFrom_16 : decode cX0_copyFrom 16 = .ok (.aload_n 0, 1) := by decide +kernel
theorem dX0_copyFrom_17 : decode cX0_copyFrom 17 = .ok (.aload_n 1, 1) := by decide +kernel
theorem dX0_copyFrom_18 : decode cX0_copyFrom 18 = .ok (.getfield 39, 3) := by decide +kernel
theorem dX0_copyFrom_21 : decode cX0_copyFrom 21 = .ok (.putfield 39, 3) := by decide +kernel
theorem dX0_copyFrom_24 : decode cX0_copyFrom 24 = .ok (.aload_n 0, 1) := by decide +kernel
theorem dX0_copyFrom_25 : decode cX0_copyFrom 25 = .ok (.aload_n 1, 1) := by decide +kernel
theorem dX0_copyFrom_26 : decode cX0_copyFrom 26 = .ok (.getfield 42, 3) := by decide +kernel
theorem dX0_copyFrom_29 : decode cX0_copyFrom 29 = .ok (.putfield 42, 3) := by decide +kernel
theorem dX0_copyFrom_32 : decode cX0_copyFrom 32 = .ok (.aload_n 0, 1) := by decide +kernel
theorem dX0_copyFrom_33 : decode cX0_copyFrom 33 = .ok (.aload_n 1, 1) := by decide +kernel
theorem dX0_copyFrom_34 : decode cX0_copyFrom 34 = .ok (.getfield 45, 3) := by decide +kernel
theorem dX0_copyFrom_37 : decode cX0_copyFrom 37 = .ok (.putfield 45, 3) := by decide +kernel
theorem dX0_copyFrom_40 : decode cX0_copyFrom 40 = .ok (.aload_n 0, 1) := by decide +kernel
theorem dX0_copyFrom_41 : decode cX0_copyFrom 41 = .ok (.getfield 14, 3) := by decide +kernel
theorem dX0_copyFrom_44 : decode cX0_copyFrom 44 = .ok (.aload_n 1, 1) := by decide +kernel
theorem dX0_copyFrom_45 : decode cX0_copyFrom 45 = .ok (.getfield 14, 3) := by decide +kernel
theorem dX0_copyFrom_48 : decode cX0_copyFrom 48 = .ok (.invokevirtual 51, 3) := by decide +kernel
theorem dX0_copyFrom_51 : decode cX0_copyFrom 51 = .ok (.aload_n 0, 1) := by decide +kernel
theorem dX0_copyFrom_52 : decode cX0_copyFrom 52 = .ok (.getfield 20, 3) := by decide +kernel
theorem dX0_copyFrom_55 : decode cX0_copyFrom 55 = .ok (.aload_n 1, 1) := by decide +kernel
theorem dX0_copyFrom_56 : decode cX0_copyFrom 56 = .ok (.getfield 20, 3) := by decide +kernel
theorem dX0_copyFrom_59 : decode cX0_copyFrom 59 = .ok (.invokevirtual 51, 3) := by decide +kernel
theorem dX0_copyFrom_62 : decode cX0_copyFrom 62 = .ok (.aload_n 0, 1) := by decide +kernel
theorem dX0_copyFrom_63 : decode cX0_copyFrom 63 = .ok (.getfield 23, 3) := by decide +kernel
theorem dX0_copyFrom_66 : decode cX0_copyFrom 66 = .ok (.aload_n 1, 1) := by decide +kernel
theorem dX0_copyFrom_67 : decode cX0_copyFrom 67 = .ok (.getfield 23, 3) := by decide +kernel
theorem dX0_copyFrom_70 : decode cX0_copyFrom 70 = .ok (.invokevirtual 51, 3) := by decide +kernel
theorem dX0_copyFrom_73 : decode cX0_copyFrom 73 = .ok (.aload_n 0, 1) := by decide +kernel
theorem dX0_copyFrom_74 : decode cX0_copyFrom 74 = .ok (.getfield 26, 3) := by decide +kernel
theorem dX0_copyFrom_77 : decode cX0_copyFrom 77 = .ok (.aload_n 1, 1) := by decide +kernel
theorem dX0_copyFrom_78 : decode cX0_copyFrom 78 = .ok (.getfield 26, 3) := by decide +kernel
theorem dX0_copyFrom_81 : decode cX0_copyFrom 81 = .ok (.invokevirtual 51, 3) := by decide +kernel
theorem dX0_copyFrom_84 : decode cX0_copyFrom 84 = .ok (.aload_n 0, 1) := by decide +kernel
theorem dX0_copyFrom_85 : decode cX0_copyFrom 85 = .ok (.getfield 29, 3) := by decide +kernel
theorem dX0_copyFrom_88 : decode cX0_copyFrom 88 = .ok (.aload_n 1, 1) := by decide +kernel
theorem dX0_copyFrom_89 : decode cX0_copyFrom 89 = .ok (.getfield 29, 3) := by decide +kernel
theorem dX0_copyFrom_92 : decode cX0_copyFrom 92 = .ok (.invokevirtual 51, 3) := by decide +kernel
theorem dX0_copyFrom_95 : decode cX0_copyFrom 95 = .ok (.return_, 1) := by decide +kernel
theorem dX0_isTold_0 : decode cX0_isTold 0 = .ok (.aload_n 0, 1) := by decide +kernel
theorem dX0_isTold_1 : decode cX0_isTold 1 = .ok (.getfield 32, 3) := by decide +kernel
theorem dX0_isTold_4 : decode cX0_isTold 4 = .ok (.ifCond .le 7, 3) := by decide +kernel
theorem dX0_isTold_7 : decode cX0_isTold 7 = .ok (.iconst 1, 1) := by decide +kernel
theorem dX0_isTold_8 : decode cX0_isTold 8 = .ok (.goto 4, 3) := by decide +kernel
theorem dX0_isTold_11 : decode cX0_isTold 11 = .ok (.iconst 0, 1) := by decide +kernel
theorem dX0_isTold_12 : decode cX0_isTold 12 = .ok (.ireturn, 1) := by decide +kernel
theorem dX0_hasLady_0 : decode cX0_hasLady 0 = .ok (.aload_n 0, 1) := by decide +kernel
theorem dX0_hasLady_1 : decode cX0_hasLady 1 = .ok (.getfield 20, 3) := by decide +kernel
theorem dX0_hasLady_4 : decode cX0_hasLady 4 = .ok (.iload_n 1, 1) := by decide +kernel
theorem dX0_hasLady_5 : decode cX0_hasLady 5 = .ok (.invokevirtual 55, 3) := by decide +kernel
theorem dX0_hasLady_8 : decode cX0_hasLady 8 = .ok (.ireturn, 1) := by decide +kernel
theorem dX0_hasRoom_0 : decode cX0_hasRoom 0 = .ok (.iload_n 1, 1) := by decide +kernel
theorem dX0_hasRoom_1 : decode cX0_hasRoom 1 = .ok (.ifCond .lt 15, 3) := by decide +kernel
theorem dX0_hasRoom_4 : decode cX0_hasRoom 4 = .ok (.iload_n 1, 1) := by decide +kernel
theorem dX0_hasRoom_5 : decode cX0_hasRoom 5 = .ok (.aload_n 0, 1) := by decide +kernel
theorem dX0_hasRoom_6 : decode cX0_hasRoom 6 = .ok (.getfield 36, 3) := by decide +kernel
theorem dX0_hasRoom_9 : decode cX0_hasRoom 9 = .ok (.if_icmp .ge 7, 3) := by decide +kernel
theorem dX0_hasRoom_12 : decode cX0_hasRoom 12 = .ok (.iconst 1, 1) := by decide +kernel
theorem dX0_hasRoom_13 : decode cX0_hasRoom 13 = .ok (.goto 4, 3) := by decide +kernel
theorem dX0_hasRoom_16 : decode cX0_hasRoom 16 = .ok (.iconst 0, 1) := by decide +kernel
theorem dX0_hasRoom_17 : decode cX0_hasRoom 17 = .ok (.ireturn, 1) := by decide +kernel
theorem dX0_hasDance_0 : decode cX0_hasDance 0 = .ok (.aload_n 0, 1) := by decide +kernel
theorem dX0_hasDance_1 : decode cX0_hasDance 1 = .ok (.invokevirtual 59, 3) := by decide +kernel
theorem dX0_hasDance_4 : decode cX0_hasDance 4 = .ok (.ifCond .eq 19, 3) := by decide +kernel
theorem dX0_hasDance_7 : decode cX0_hasDance 7 = .ok (.iload_n 1, 1) := by decide +kernel
theorem dX0_hasDance_8 : decode cX0_hasDance 8 = .ok (.ifCond .lt 15, 3) := by decide +kernel
theorem dX0_hasDance_11 : decode cX0_hasDance 11 = .ok (.iload_n 1, 1) := by decide +kernel
theorem dX0_hasDance_12 : decode cX0_hasDance 12 = .ok (.aload_n 0, 1) := by decide +kernel
theorem dX0_hasDance_13 : decode cX0_hasDance 13 = .ok (.getfield 39, 3) := by decide +kernel
theorem dX0_hasDance_16 : decode cX0_hasDance 16 = .ok (.if_icmp .gt 7, 3) := by decide +kernel
theorem dX0_hasDance_19 : decode cX0_hasDance 19 = .ok (.iconst 1, 1) := by decide +kernel
theorem dX0_hasDance_20 : decode cX0_hasDance 20 = .ok (.goto 4, 3) := by decide +kernel
theorem dX0_hasDance_23 : decode cX0_hasDance 23 = .ok (.iconst 0, 1) := by decide +kernel
theorem dX0_hasDance_24 : decode cX0_hasDance 24 = .ok (.ireturn, 1) := by decide +kernel
theorem dX0_hasSet_0 : decode cX0_hasSet 0 = .ok (.aload_n 0, 1) := by decide +kernel
theorem dX0_hasSet_1 : decode cX0_hasSet 1 = .ok (.invokevirtual 59, 3) := by decide +kernel
theorem dX0_hasSet_4 : decode cX0_hasSet 4 = .ok (.ifCond .eq 19, 3) := by decide +kernel
theorem dX0_hasSet_7 : decode cX0_hasSet 7 = .ok (.iload_n 1, 1) := by decide +kernel
theorem dX0_hasSet_8 : decode cX0_hasSet 8 = .ok (.ifCond .lt 15, 3) := by decide +kernel
theorem dX0_hasSet_11 : decode cX0_hasSet 11 = .ok (.iload_n 1, 1) := by decide +kernel
theorem dX0_hasSet_12 : decode cX0_hasSet 12 = .ok (.aload_n 0, 1) := by decide +kernel
theorem dX0_hasSet_13 : decode cX0_hasSet 13 = .ok (.invokevirtual 63, 3) := by decide +kernel
theorem dX0_hasSet_16 : decode cX0_hasSet 16 = .ok (.if_icmp .gt 7, 3) := by decide +kernel
theorem dX0_hasSet_19 : decode cX0_hasSet 19 = .ok (.iconst 1, 1) := by decide +kernel
theorem dX0_hasSet_20 : decode cX0_hasSet 20 = .ok (.goto 4, 3) := by decide +kernel
theorem dX0_hasSet_23 : decode cX0_hasSet 23 = .ok (.iconst 0, 1) := by decide +kernel
theorem dX0_hasSet_24 : decode cX0_hasSet 24 = .ok (.ireturn, 1) := by decide +kernel
theorem dX0_everybody_0 : decode cX0_everybody 0 = .ok (.iconst 1, 1) := by decide +kernel
theorem dX0_everybody_1 : decode cX0_everybody 1 = .ok (.aload_n 0, 1) := by decide +kernel
theorem dX0_everybody_2 : decode cX0_everybody 2 = .ok (.getfield 20, 3) := by decide +kernel
theorem dX0_everybody_5 : decode cX0_everybody 5 = .ok (.getfield 67, 3) := by decide +kernel
theorem dX0_everybody_8 : decode cX0_everybody 8 = .ok (.ishl, 1) := by decide +kernel
theorem dX0_everybody_9 : decode cX0_everybody 9 = .ok (.iconst 1, 1) := by decide +kernel
theorem dX0_everybody_10 : decode cX0_everybody 10 = .ok (.isub, 1) := by decide +kernel
theorem dX0_everybody_11 : decode cX0_everybody 11 = .ok (.ireturn, 1) := by decide +kernel
theorem dX0_ministersUnder_0 : decode cX0_ministersUnder 0 = .ok (.iconst 0, 1) := by decide +kernel
theorem dX0_ministersUnder_1 : decode cX0_ministersUnder 1 = .ok (.istore_n 2, 1) := by decide +kernel
theorem dX0_ministersUnder_2 : decode cX0_ministersUnder 2 = .ok (.iconst 0, 1) := by decide +kernel
theorem dX0_ministersUnder_3 : decode cX0_ministersUnder 3 = .ok (.istore_n 3, 1) := by decide +kernel
theorem dX0_ministersUnder_4 : decode cX0_ministersUnder 4 = .ok (.iload_n 3, 1) := by decide +kernel
theorem dX0_ministersUnder_5 : decode cX0_ministersUnder 5 = .ok (.aload_n 0, 1) := by decide +kernel
theorem dX0_ministersUnder_6 : decode cX0_ministersUnder 6 = .ok (.getfield 23, 3) := by decide +kernel
theorem dX0_ministersUnder_9 : decode cX0_ministersUnder 9 = .ok (.getfield 67, 3) := by decide +kernel
theorem dX0_ministersUnder_12 : decode cX0_ministersUnder 12 = .ok (.if_icmp .ge 28, 3) := by decide +kernel
theorem dX0_ministersUnder_15 : decode cX0_ministersUnder 15 = .ok (.aload_n 0, 1) := by decide +kernel
theorem dX0_ministersUnder_16 : decode cX0_ministersUnder 16 = .ok (.getfield 23, 3) := by decide +kernel
theorem dX0_ministersUnder_19 : decode cX0_ministersUnder 19 = .ok (.iload_n 3, 1) := by decide +kernel
theorem dX0_ministersUnder_20 : decode cX0_ministersUnder 20 = .ok (.iconst 0, 1) := by decide +kernel
theorem dX0_ministersUnder_21 : decode cX0_ministersUnder 21 = .ok (.invokevirtual 70, 3) := by decide +kernel
theorem dX0_ministersUnder_24 : decode cX0_ministersUnder 24 = .ok (.iload_n 1, 1) := by decide +kernel
theorem dX0_ministersUnder_25 : decode cX0_ministersUnder 25 = .ok (.if_icmp .ne 9, 3) := by decide +kernel
theorem dX0_ministersUnder_28 : decode cX0_ministersUnder 28 = .ok (.iload_n 2, 1) := by decide +kernel
theorem dX0_ministersUnder_29 : decode cX0_ministersUnder 29 = .ok (.iconst 1, 1) := by decide +kernel
theorem dX0_ministersUnder_30 : decode cX0_ministersUnder 30 = .ok (.iload_n 3, 1) := by decide +kernel
theorem dX0_ministersUnder_31 : decode cX0_ministersUnder 31 = .ok (.ishl, 1) := by decide +kernel
theorem dX0_ministersUnder_32 : decode cX0_ministersUnder 32 = .ok (.ior, 1) := by decide +kernel
theorem dX0_ministersUnder_33 : decode cX0_ministersUnder 33 = .ok (.istore_n 2, 1) := by decide +kernel
theorem dX0_ministersUnder_34 : decode cX0_ministersUnder 34 = .ok (.iinc 3 1, 3) := by decide +kernel
theorem dX0_ministersUnder_37 : decode cX0_ministersUnder 37 = .ok (.goto (-33), 3) := by decide +kernel
theorem dX0_ministersUnder_40 : decode cX0_ministersUnder 40 = .ok (.iload_n 2, 1) := by decide +kernel
theorem dX0_ministersUnder_41 : decode cX0_ministersUnder 41 = .ok (.ireturn, 1) := by decide +kernel
theorem dX0_seatsUnder_0 : decode cX0_seatsUnder 0 = .ok (.iconst 0, 1) := by decide +kernel
theorem dX0_seatsUnder_1 : decode cX0_seatsUnder 1 = .ok (.istore_n 2, 1) := by decide +kernel
theorem dX0_seatsUnder_2 : decode cX0_seatsUnder 2 = .ok (.iconst 0, 1) := by decide +kernel
theorem dX0_seatsUnder_3 : decode cX0_seatsUnder 3 = .ok (.istore_n 3, 1) := by decide +kernel
theorem dX0_seatsUnder_4 : decode cX0_seatsUnder 4 = .ok (.iload_n 3, 1) := by decide +kernel
theorem dX0_seatsUnder_5 : decode cX0_seatsUnder 5 = .ok (.aload_n 0, 1) := by decide +kernel
theorem dX0_seatsUnder_6 : decode cX0_seatsUnder 6 = .ok (.getfield 23, 3) := by decide +kernel
theorem dX0_seatsUnder_9 : decode cX0_seatsUnder 9 = .ok (.getfield 67, 3) := by decide +kernel
theorem dX0_seatsUnder_12 : decode cX0_seatsUnder 12 = .ok (.if_icmp .ge 34, 3) := by decide +kernel
theorem dX0_seatsUnder_15 : decode cX0_seatsUnder 15 = .ok (.aload_n 0, 1) := by decide +kernel
theorem dX0_seatsUnder_16 : decode cX0_seatsUnder 16 = .ok (.getfield 23, 3) := by decide +kernel
theorem dX0_seatsUnder_19 : decode cX0_seatsUnder 19 = .ok (.iload_n 3, 1) := by decide +kernel
theorem dX0_seatsUnder_20 : decode cX0_seatsUnder 20 = .ok (.iconst 0, 1) := by decide +kernel
theorem dX0_seatsUnder_21 : decode cX0_seatsUnder 21 = .ok (.invokevirtual 70, 3) := by decide +kernel
theorem dX0_seatsUnder_24 : decode cX0_seatsUnder 24 = .ok (.iload_n 1, 1) := by decide +kernel
theorem dX0_seatsUnder_25 : decode cX0_seatsUnder 25 = .ok (.if_icmp .ne 15, 3) := by decide +kernel
theorem dX0_seatsUnder_28 : decode cX0_seatsUnder 28 = .ok (.iload_n 2, 1) := by decide +kernel
theorem dX0_seatsUnder_29 : decode cX0_seatsUnder 29 = .ok (.aload_n 0, 1) := by decide +kernel
theorem dX0_seatsUnder_30 : decode cX0_seatsUnder 30 = .ok (.getfield 23, 3) := by decide +kernel
theorem dX0_seatsUnder_33 : decode cX0_seatsUnder 33 = .ok (.iload_n 3, 1) := by decide +kernel
theorem dX0_seatsUnder_34 : decode cX0_seatsUnder 34 = .ok (.iconst 1, 1) := by decide +kernel
theorem dX0_seatsUnder_35 : decode cX0_seatsUnder 35 = .ok (.invokevirtual 70, 3) := by decide +kernel
theorem dX0_seatsUnder_38 : decode cX0_seatsUnder 38 = .ok (.iadd, 1) := by decide +kernel
theorem dX0_seatsUnder_39 : decode cX0_seatsUnder 39 = .ok (.istore_n 2, 1) := by decide +kernel
theorem dX0_seatsUnder_40 : decode cX0_seatsUnder 40 = .ok (.iinc 3 1, 3) := by decide +kernel
theorem dX0_seatsUnder_43 : decode cX0_seatsUnder 43 = .ok (.goto (-39), 3) := by decide +kernel
theorem dX0_seatsUnder_46 : decode cX0_seatsUnder 46 = .ok (.iload_n 2, 1) := by decide +kernel
theorem dX0_seatsUnder_47 : decode cX0_seatsUnder 47 = .ok (.ireturn, 1) := by decide +kernel
theorem dX0_actBid_0 : decode cX0_actBid 0 = .ok (.aload_n 0, 1) := by decide +kernel
theorem dX0_actBid_1 : decode cX0_actBid 1 = .ok (.getfield 29, 3) := by decide +kernel
theorem dX0_actBid_4 : decode cX0_actBid 4 = .ok (.iconst 0, 1) := by decide +kernel
theorem dX0_actBid_5 : decode cX0_actBid 5 = .ok (.iload_n 1, 1) := by decide +kernel
theorem dX0_actBid_6 : decode cX0_actBid 6 = .ok (.iload_n 2, 1) := by decide +kernel
theorem dX0_actBid_7 : decode cX0_actBid 7 = .ok (.iload_n 3, 1) := by decide +kernel
theorem dX0_actBid_8 : decode cX0_actBid 8 = .ok (.invokevirtual 74, 3) := by decide +kernel
theorem dX0_actBid_11 : decode cX0_actBid 11 = .ok (.return_, 1) := by decide +kernel
theorem dX0_actMove_0 : decode cX0_actMove 0 = .ok (.aload_n 0, 1) := by decide +kernel
theorem dX0_actMove_1 : decode cX0_actMove 1 = .ok (.getfield 29, 3) := by decide +kernel
theorem dX0_actMove_4 : decode cX0_actMove 4 = .ok (.iconst 1, 1) := by decide +kernel
theorem dX0_actMove_5 : decode cX0_actMove 5 = .ok (.iload_n 1, 1) := by decide +kernel
theorem dX0_actMove_6 : decode cX0_actMove 6 = .ok (.iload_n 2, 1) := by decide +kernel
theorem dX0_actMove_7 : decode cX0_actMove 7 = .ok (.aload_n 0, 1) := by decide +kernel
theorem dX0_actMove_8 : decode cX0_actMove 8 = .ok (.getfield 23, 3) := by decide +kernel
theorem dX0_actMove_11 : decode cX0_actMove 11 = .ok (.iload_n 1, 1) := by decide +kernel
theorem dX0_actMove_12 : decode cX0_actMove 12 = .ok (.iconst 0, 1) := by decide +kernel
theorem dX0_actMove_13 : decode cX0_actMove 13 = .ok (.invokevirtual 70, 3) := by decide +kernel
theorem dX0_actMove_16 : decode cX0_actMove 16 = .ok (.invokevirtual 74, 3) := by decide +kernel
theorem dX0_actMove_19 : decode cX0_actMove 19 = .ok (.aload_n 0, 1) := by decide +kernel
theorem dX0_actMove_20 : decode cX0_actMove 20 = .ok (.getfield 23, 3) := by decide +kernel
theorem dX0_actMove_23 : decode cX0_actMove 23 = .ok (.iload_n 1, 1) := by decide +kernel
theorem dX0_actMove_24 : decode cX0_actMove 24 = .ok (.iconst 0, 1) := by decide +kernel
theorem dX0_actMove_25 : decode cX0_actMove 25 = .ok (.iload_n 2, 1) := by decide +kernel
theorem dX0_actMove_26 : decode cX0_actMove 26 = .ok (.invokevirtual 78, 3) := by decide +kernel
theorem dX0_actMove_29 : decode cX0_actMove 29 = .ok (.return_, 1) := by decide +kernel
theorem dX0_takeBack_0 : decode cX0_takeBack 0 = .ok (.aload_n 0, 1) := by decide +kernel
theorem dX0_takeBack_1 : decode cX0_takeBack 1 = .ok (.getfield 29, 3) := by decide +kernel
theorem dX0_takeBack_4 : decode cX0_takeBack 4 = .ok (.getfield 67, 3) := by decide +kernel
theorem dX0_takeBack_7 : decode cX0_takeBack 7 = .ok (.iconst 1, 1) := by decide +kernel
theorem dX0_takeBack_8 : decode cX0_takeBack 8 = .ok (.isub, 1) := by decide +kernel
theorem dX0_takeBack_9 : decode cX0_takeBack 9 = .ok (.istore_n 1, 1) := by decide +kernel
theorem dX0_takeBack_10 : decode cX0_takeBack 10 = .ok (.aload_n 0, 1) := by decide +kernel
theorem dX0_takeBack_11 : decode cX0_takeBack 11 = .ok (.getfield 29, 3) := by decide +kernel
theorem dX0_takeBack_14 : decode cX0_takeBack 14 = .ok (.iload_n 1, 1) := by decide +kernel
theorem dX0_takeBack_15 : decode cX0_takeBack 15 = .ok (.iconst 0, 1) := by decide +kernel
theorem dX0_takeBack_16 : decode cX0_takeBack 16 = .ok (.invokevirtual 70, 3) := by decide +kernel
theorem dX0_takeBack_19 : decode cX0_takeBack 19 = .ok (.iconst 1, 1) := by decide +kernel
theorem dX0_takeBack_20 : decode cX0_takeBack 20 = .ok (.if_icmp .ne 29, 3) := by decide +kernel
theorem dX0_takeBack_23 : decode cX0_takeBack 23 = .ok (.aload_n 0, 1) := by decide +kernel
theorem dX0_takeBack_24 : decode cX0_takeBack 24 = .ok (.getfield 23, 3) := by decide +kernel
theorem dX0_takeBack_27 : decode cX0_takeBack 27 = .ok (.aload_n 0, 1) := by decide +kernel
theorem dX0_takeBack_28 : decode cX0_takeBack 28 = .ok (.getfield 29, 3) := by decide +kernel
theorem dX0_takeBack_31 : decode cX0_takeBack 31 = .ok (.iload_n 1, 1) := by decide +kernel
theorem dX0_takeBack_32 : decode cX0_takeBack 32 = .ok (.iconst 1, 1) := by decide +kernel
theorem dX0_takeBack_33 : decode cX0_takeBack 33 = .ok (.invokevirtual 70, 3) := by decide +kernel
theorem dX0_takeBack_36 : decode cX0_takeBack 36 = .ok (.iconst 0, 1) := by decide +kernel
theorem dX0_takeBack_37 : decode cX0_takeBack 37 = .ok (.aload_n 0, 1) := by decide +kernel
theorem dX0_takeBack_38 : decode cX0_takeBack 38 = .ok (.getfield 29, 3) := by decide +kernel
theorem dX0_takeBack_41 : decode cX0_takeBack 41 = .ok (.iload_n 1, 1) := by decide +kernel
theorem dX0_takeBack_42 : decode cX0_takeBack 42 = .ok (.iconst 3, 1) := by decide +kernel
theorem dX0_takeBack_43 : decode cX0_takeBack 43 = .ok (.invokevirtual 70, 3) := by decide +kernel
theorem dX0_takeBack_46 : decode cX0_takeBack 46 = .ok (.invokevirtual 78, 3) := by decide +kernel
theorem dX0_takeBack_49 : decode cX0_takeBack 49 = .ok (.aload_n 0, 1) := by decide +kernel
theorem dX0_takeBack_50 : decode cX0_takeBack 50 = .ok (.getfield 29, 3) := by decide +kernel
theorem dX0_takeBack_53 : decode cX0_takeBack 53 = .ok (.invokevirtual 82, 3) := by decide +kernel
theorem dX0_takeBack_56 : decode cX0_takeBack 56 = .ok (.return_, 1) := by decide +kernel
theorem dX1_prepare_0 : decode cX1_prepare 0 = .ok (.aload_n 0, 1) := by decide +kernel
theorem dX1_prepare_1 : decode cX1_prepare 1 = .ok (.iload_n 3, 1) := by decide +kernel
theorem dX1_prepare_2 : decode cX1_prepare 2 = .ok (.putfield 21, 3) := by decide +kernel
theorem dX1_prepare_5 : decode cX1_prepare 5 = .ok (.aload_n 0, 1) := by decide +kernel
theorem dX1_prepare_6 : decode cX1_prepare 6 = .ok (.iload 4, 2) := by decide +kernel
theorem dX1_prepare_8 : decode cX1_prepare 8 = .ok (.putfield 25, 3) := by decide +kernel
theorem dX1_prepare_11 : decode cX1_prepare 11 = .ok (.aload_n 0, 1) := by decide +kernel
theorem dX1_prepare_12 : decode cX1_prepare 12 = .ok (.aload_n 2, 1) := by decide +kernel
theorem dX1_prepare_13 : decode cX1_prepare 13 = .ok (.getfield 28, 3) := by decide +kernel
theorem dX1_prepare_16 : decode cX1_prepare 16 = .ok (.putfield 33, 3) := by decide +kernel
theorem dX1_prepare_19 : decode cX1_prepare 19 = .ok (.iconst 0, 1) := by decide +kernel
theorem dX1_prepare_20 : decode cX1_prepare 20 = .ok (.istore 5, 2) := by decide +kernel
theorem dX1_prepare_22 : decode cX1_prepare 22 = .ok (.iload 5, 2) := by decide +kernel
theorem dX1_prepare_24 : decode cX1_prepare 24 = .ok (.aload_n 0, 1) := by decide +kernel
theorem dX1_prepare_25 : decode cX1_prepare 25 = .ok (.getfield 33, 3) := by decide +kernel
theorem dX1_prepare_28 : decode cX1_prepare 28 = .ok (.if_icmp .gt 37, 3) := by decide +kernel
theorem dX1_prepare_31 : decode cX1_prepare 31 = .ok (.aload_n 0, 1) := by decide +kernel
theorem dX1_prepare_32 : decode cX1_prepare 32 = .ok (.getfield 9, 3) := by decide +kernel
theorem dX1_prepare_35 : decode cX1_prepare 35 = .ok (.iload 5, 2) := by decide +kernel
theorem dX1_prepare_37 : decode cX1_prepare 37 = .ok (.aload_n 1, 1) := by decide +kernel
theorem dX1_prepare_38 : decode cX1_prepare 38 = .ok (.aload_n 2, 1) := by decide +kernel
theorem dX1_prepare_39 : decode cX1_prepare 39 = .ok (.iload 5, 2) := by decide +kernel
theorem dX1_prepare_41 : decode cX1_prepare 41 = .ok (.invokevirtual 34, 3) := by decide +kernel
theorem dX1_prepare_44 : decode cX1_prepare 44 = .ok (.iconst 1, 1) := by decide +kernel
theorem dX1_prepare_45 : decode cX1_prepare 45 = .ok (.aload_n 0, 1) := by decide +kernel
theorem dX1_prepare_46 : decode cX1_prepare 46 = .ok (.getfield 21, 3) := by decide +kernel
theorem dX1_prepare_49 : decode cX1_prepare 49 = .ok (.ishl, 1) := by decide +kernel
theorem dX1_prepare_50 : decode cX1_prepare 50 = .ok (.iconst (-1), 1) := by decide +kernel
theorem dX1_prepare_51 : decode cX1_prepare 51 = .ok (.ixor, 1) := by decide +kernel
theorem dX1_prepare_52 : decode cX1_prepare 52 = .ok (.iand, 1) := by decide +kernel
theorem dX1_prepare_53 : decode cX1_prepare 53 = .ok (.iload 5, 2) := by decide +kernel
theorem dX1_prepare_55 : decode cX1_prepare 55 = .ok (.invokestatic 38, 3) := by decide +kernel
theorem dX1_prepare_58 : decode cX1_prepare 58 = .ok (.iastore, 1) := by decide +kernel
theorem dX1_prepare_59 : decode cX1_prepare 59 = .ok (.iinc 5 1, 3) := by decide +kernel
theorem dX1_prepare_62 : decode cX1_prepare 62 = .ok (.goto (-40), 3) := by decide +kernel
theorem dX1_prepare_65 : decode cX1_prepare 65 = .ok (.aload_n 0, 1) := by decide +kernel
theorem dX1_prepare_66 : decode cX1_prepare 66 = .ok (.aload_n 2, 1) := by decide +kernel
theorem dX1_prepare_67 : decode cX1_prepare 67 = .ok (.getfield 42, 3) := by decide +kernel
theorem dX1_prepare_70 : decode cX1_prepare 70 = .ok (.aload_n 0, 1) := by decide +kernel
theorem dX1_prepare_71 : decode cX1_prepare 71 = .ok (.getfield 21, 3) := by decide +kernel
theorem dX1_prepare_74 : decode cX1_prepare 74 = .ok (.if_icmp .eq 24, 3) := by decide +kernel
theorem dX1_prepare_77 : decode cX1_prepare 77 = .ok (.aload_n 0, 1) := by decide +kernel
theorem dX1_prepare_78 : decode cX1_prepare 78 = .ok (.getfield 9, 3) := by decide +kernel
theorem dX1_prepare_81 : decode cX1_prepare 81 = .ok (.iconst 0, 1) := by decide +kernel
theorem dX1_prepare_82 : decode cX1_prepare 82 = .ok (.iaload, 1) := by decide +kernel
theorem dX1_prepare_83 : decode cX1_prepare 83 = .ok (.aload_n 1, 1) := by decide +kernel
theorem dX1_prepare_84 : decode cX1_prepare 84 = .ok (.aload_n 0, 1) := by decide +kernel
theorem dX1_prepare_85 : decode cX1_prepare 85 = .ok (.getfield 21, 3) := by decide +kernel
theorem dX1_prepare_88 : decode cX1_prepare 88 = .ok (.iconst 0, 1) := by decide +kernel
theorem dX1_prepare_89 : decode cX1_prepare 89 = .ok (.invokevirtual 45, 3) := by decide +kernel
theorem dX1_prepare_92 : decode cX1_prepare 92 = .ok (.invokestatic 51, 3) := by decide +kernel
theorem dX1_prepare_95 : decode cX1_prepare 95 = .ok (.ifCond .eq 7, 3) := by decide +kernel
theorem dX1_prepare_98 : decode cX1_prepare 98 = .ok (.iconst 1, 1) := by decide +kernel
theorem dX1_prepare_99 : decode cX1_prepare 99 = .ok (.goto 4, 3) := by decide +kernel
theorem dX1_prepare_102 : decode cX1_prepare 102 = .ok (.iconst 0, 1) := by decide +kernel
theorem dX1_prepare_103 : decode cX1_prepare 103 = .ok (.putfield 55, 3) := by decide +kernel
theorem dX1_prepare_106 : decode cX1_prepare 106 = .ok (.aload_n 0, 1) := by decide +kernel
theorem dX1_prepare_107 : decode cX1_prepare 107 = .ok (.aload_n 2, 1) := by decide +kernel
theorem dX1_prepare_108 : decode cX1_prepare 108 = .ok (.getfield 42, 3) := by decide +kernel
theorem dX1_prepare_111 : decode cX1_prepare 111 = .ok (.aload_n 0, 1) := by decide +kernel
theorem dX1_prepare_112 : decode cX1_prepare 112 = .ok (.getfield 21, 3) := by decide +kernel
theorem dX1_prepare_115 : decode cX1_prepare 115 = .ok (.if_icmp .ne 28, 3) := by decide +kernel
theorem dX1_prepare_118 : decode cX1_prepare 118 = .ok (.aload_n 1, 1) := by decide +kernel
theorem dX1_prepare_119 : decode cX1_prepare 119 = .ok (.aload_n 0, 1) := by decide +kernel
theorem dX1_prepare_120 : decode cX1_prepare 120 = .ok (.getfield 21, 3) := by decide +kernel
theorem dX1_prepare_123 : decode cX1_prepare 123 = .ok (.iconst 0, 1) := by decide +kernel
theorem dX1_prepare_124 : decode cX1_prepare 124 = .ok (.invokevirtual 45, 3) := by decide +kernel
theorem dX1_prepare_127 : decode cX1_prepare 127 = .ok (.aload_n 1, 1) := by decide +kernel
theorem dX1_prepare_128 : decode cX1_prepare 128 = .ok (.aload_n 0, 1) := by decide +kernel
theorem dX1_prepare_129 : decode cX1_prepare 129 = .ok (.getfield 25, 3) := by decide +kernel
theorem dX1_prepare_132 : decode cX1_prepare 132 = .ok (.iconst 0, 1) := by decide +kernel
theorem dX1_prepare_133 : decode cX1_prepare 133 = .ok (.invokevirtual 45, 3) := by decide +kernel
theorem dX1_prepare_136 : decode cX1_prepare 136 = .ok (.if_icmp .ne 7, 3) := by decide +kernel
theorem dX1_prepare_139 : decode cX1_prepare 139 = .ok (.iconst 1, 1) := by decide +kernel
theorem dX1_prepare_140 : decode cX1_prepare 140 = .ok (.goto 4, 3) := by decide +kernel
theorem dX1_prepare_143 : decode cX1_prepare 143 = .ok (.iconst 0, 1) := by decide +kernel
theorem dX1_prepare_144 : decode cX1_prepare 144 = .ok (.putfield 59, 3) := by decide +kernel
theorem dX1_prepare_147 : decode cX1_prepare 147 = .ok (.return_, 1) := by decide +kernel
theorem dX1_roomsOf_0 : decode cX1_roomsOf 0 = .ok (.iconst 0, 1) := by decide +kernel
theorem dX1_roomsOf_1 : decode cX1_roomsOf 1 = .ok (.istore_n 3, 1) := by decide +kernel
theorem dX1_roomsOf_2 : decode cX1_roomsOf 2 = .ok (.iconst 0, 1) := by decide +kernel
theorem dX1_roomsOf_3 : decode cX1_roomsOf 3 = .ok (.istore 4, 2) := by decide +kernel
theorem dX1_roomsOf_5 : decode cX1_roomsOf 5 = .ok (.iload 4, 2) := by decide +kernel
theorem dX1_roomsOf_7 : decode cX1_roomsOf 7 = .ok (.bipush 6, 2) := by decide +kernel
theorem dX1_roomsOf_9 : decode cX1_roomsOf 9 = .ok (.if_icmp .ge 30, 3) := by decide +kernel
theorem dX1_roomsOf_12 : decode cX1_roomsOf 12 = .ok (.iload_n 1, 1) := by decide +kernel
theorem dX1_roomsOf_13 : decode cX1_roomsOf 13 = .ok (.iload 4, 2) := by decide +kernel
theorem dX1_roomsOf_15 : decode cX1_roomsOf 15 = .ok (.invokestatic 51, 3) := by decide +kernel
theorem dX1_roomsOf_18 : decode cX1_roomsOf 18 = .ok (.ifCond .eq 15, 3) := by decide +kernel
theorem dX1_roomsOf_21 : decode cX1_roomsOf 21 = .ok (.iload_n 3, 1) := by decide +kernel
theorem dX1_roomsOf_22 : decode cX1_roomsOf 22 = .ok (.iconst 1, 1) := by decide +kernel
theorem dX1_roomsOf_23 : decode cX1_roomsOf 23 = .ok (.aload_n 0, 1) := by decide +kernel
theorem dX1_roomsOf_24 : decode cX1_roomsOf 24 = .ok (.iload 4, 2) := by decide +kernel
theorem dX1_roomsOf_26 : decode cX1_roomsOf 26 = .ok (.iload_n 2, 1) := by decide +kernel
theorem dX1_roomsOf_27 : decode cX1_roomsOf 27 = .ok (.invokevirtual 45, 3) := by decide +kernel
theorem dX1_roomsOf_30 : decode cX1_roomsOf 30 = .ok (.ishl, 1) := by decide +kernel
theorem dX1_roomsOf_31 : decode cX1_roomsOf 31 = .ok (.ior, 1) := by decide +kernel
theorem dX1_roomsOf_32 : decode cX1_roomsOf 32 = .ok (.istore_n 3, 1) := by decide +kernel
theorem dX1_roomsOf_33 : decode cX1_roomsOf 33 = .ok (.iinc 4 1, 3) := by decide +kernel
theorem dX1_roomsOf_36 : decode cX1_roomsOf 36 = .ok (.goto (-31), 3) := by decide +kernel
theorem dX1_roomsOf_39 : decode cX1_roomsOf 39 = .ok (.iload_n 3, 1) := by decide +kernel
theorem dX1_roomsOf_40 : decode cX1_roomsOf 40 = .ok (.ireturn, 1) := by decide +kernel
theorem dX1_soonest_0 : decode cX1_soonest 0 = .ok (.aload_n 0, 1) := by decide +kernel
theorem dX1_soonest_1 : decode cX1_soonest 1 = .ok (.getfield 59, 3) := by decide +kernel
theorem dX1_soonest_4 : decode cX1_soonest 4 = .ok (.ifCond .eq 5, 3) := by decide +kernel
theorem dX1_soonest_7 : decode cX1_soonest 7 = .ok (.iconst 0, 1) := by decide +kernel
theorem dX1_soonest_8 : decode cX1_soonest 8 = .ok (.ireturn, 1) := by decide +kernel
theorem dX1_soonest_9 : decode cX1_soonest 9 = .ok (.aload_n 1, 1) := by decide +kernel
theorem dX1_soonest_10 : decode cX1_soonest 10 = .ok (.aload_n 0, 1) := by decide +kernel
theorem dX1_soonest_11 : decode cX1_soonest 11 = .ok (.getfield 21, 3) := by decide +kernel
theorem dX1_soonest_14 : decode cX1_soonest 14 = .ok (.iconst 0, 1) := by decide +kernel
theorem dX1_soonest_15 : decode cX1_soonest 15 = .ok (.invokevirtual 45, 3) := by decide +kernel
theorem dX1_soonest_18 : decode cX1_soonest 18 = .ok (.istore_n 2, 1) := by decide +kernel
theorem dX1_soonest_19 : decode cX1_soonest 19 = .ok (.iconst 1, 1) := by decide +kernel
theorem dX1_soonest_20 : decode cX1_soonest 20 = .ok (.istore_n 3, 1) := by decide +kernel
theorem dX1_soonest_21 : decode cX1_soonest 21 = .ok (.iload_n 3, 1) := by decide +kernel
theorem dX1_soonest_22 : decode cX1_soonest 22 = .ok (.aload_n 0, 1) := by decide +kernel
theorem dX1_soonest_23 : decode cX1_soonest 23 = .ok (.getfield 33, 3) := by decide +kernel
theorem dX1_soonest_26 : decode cX1_soonest 26 = .ok (.if_icmp .gt 46, 3) := by decide +kernel
theorem dX1_soonest_29 : decode cX1_soonest 29 = .ok (.aload_n 0, 1) := by decide +kernel
theorem dX1_soonest_30 : decode cX1_soonest 30 = .ok (.aload_n 1, 1) := by decide +kernel
theorem dX1_soonest_31 : decode cX1_soonest 31 = .ok (.iload_n 3, 1) := by decide +kernel
theorem dX1_soonest_32 : decode cX1_soonest 32 = .ok (.invokevirtual 62, 3) := by decide +kernel
theorem dX1_soonest_35 : decode cX1_soonest 35 = .ok (.aload_n 0, 1) := by decide +kernel
theorem dX1_soonest_36 : decode cX1_soonest 36 = .ok (.getfield 55, 3) := by decide +kernel
theorem dX1_soonest_39 : decode cX1_soonest 39 = .ok (.ifCond .eq 12, 3) := by decide +kernel
theorem dX1_soonest_42 : decode cX1_soonest 42 = .ok (.aload_n 0, 1) := by decide +kernel
theorem dX1_soonest_43 : decode cX1_soonest 43 = .ok (.getfield 15, 3) := by decide +kernel
theorem dX1_soonest_46 : decode cX1_soonest 46 = .ok (.iconst 0, 1) := by decide +kernel
theorem dX1_soonest_47 : decode cX1_soonest 47 = .ok (.iaload, 1) := by decide +kernel
theorem dX1_soonest_48 : decode cX1_soonest 48 = .ok (.goto 9, 3) := by decide +kernel
theorem dX1_soonest_51 : decode cX1_soonest 51 = .ok (.aload_n 0, 1) := by decide +kernel
theorem dX1_soonest_52 : decode cX1_soonest 52 = .ok (.getfield 18, 3) := by decide +kernel
theorem dX1_soonest_55 : decode cX1_soonest 55 = .ok (.iconst 0, 1) := by decide +kernel
theorem dX1_soonest_56 : decode cX1_soonest 56 = .ok (.iaload, 1) := by decide +kernel
theorem dX1_soonest_57 : decode cX1_soonest 57 = .ok (.iload_n 2, 1) := by decide +kernel
theorem dX1_soonest_58 : decode cX1_soonest 58 = .ok (.invokestatic 51, 3) := by decide +kernel
theorem dX1_soonest_61 : decode cX1_soonest 61 = .ok (.ifCond .eq 5, 3) := by decide +kernel
theorem dX1_soonest_64 : decode cX1_soonest 64 = .ok (.iload_n 3, 1) := by decide +kernel
theorem dX1_soonest_65 : decode cX1_soonest 65 = .ok (.ireturn, 1) := by decide +kernel
theorem dX1_soonest_66 : decode cX1_soonest 66 = .ok (.iinc 3 1, 3) := by decide +kernel
theorem dX1_soonest_69 : decode cX1_soonest 69 = .ok (.goto (-48), 3) := by decide +kernel
theorem dX1_soonest_72 : decode cX1_soonest 72 = .ok (.iconst (-1), 1) := by decide +kernel
theorem dX1_soonest_73 : decode cX1_soonest 73 = .ok (.ireturn, 1) := by decide +kernel
theorem dX1_lookBack_0 : decode cX1_lookBack 0 = .ok (.aload_n 0, 1) := by decide +kernel
theorem dX1_lookBack_1 : decode cX1_lookBack 1 = .ok (.getfield 15, 3) := by decide +kernel
theorem dX1_lookBack_4 : decode cX1_lookBack 4 = .ok (.iload_n 2, 1) := by decide +kernel
theorem dX1_lookBack_5 : decode cX1_lookBack 5 = .ok (.iconst 1, 1) := by decide +kernel
theorem dX1_lookBack_6 : decode cX1_lookBack 6 = .ok (.aload_n 1, 1) := by decide +kernel
theorem dX1_lookBack_7 : decode cX1_lookBack 7 = .ok (.aload_n 0, 1) := by decide +kernel
theorem dX1_lookBack_8 : decode cX1_lookBack 8 = .ok (.getfield 25, 3) := by decide +kernel
theorem dX1_lookBack_11 : decode cX1_lookBack 11 = .ok (.iload_n 2, 1) := by decide +kernel
theorem dX1_lookBack_12 : decode cX1_lookBack 12 = .ok (.invokevirtual 45, 3) := by decide +kernel
theorem dX1_lookBack_15 : decode cX1_lookBack 15 = .ok (.ishl, 1) := by decide +kernel
theorem dX1_lookBack_16 : decode cX1_lookBack 16 = .ok (.iastore, 1) := by decide +kernel
theorem dX1_lookBack_17 : decode cX1_lookBack 17 = .ok (.aload_n 0, 1) := by decide +kernel
theorem dX1_lookBack_18 : decode cX1_lookBack 18 = .ok (.getfield 18, 3) := by decide +kernel
theorem dX1_lookBack_21 : decode cX1_lookBack 21 = .ok (.iload_n 2, 1) := by decide +kernel
theorem dX1_lookBack_22 : decode cX1_lookBack 22 = .ok (.iconst 0, 1) := by decide +kernel
theorem dX1_lookBack_23 : decode cX1_lookBack 23 = .ok (.iastore, 1) := by decide +kernel
theorem dX1_lookBack_24 : decode cX1_lookBack 24 = .ok (.iload_n 2, 1) := by decide +kernel
theorem dX1_lookBack_25 : decode cX1_lookBack 25 = .ok (.iconst 1, 1) := by decide +kernel
theorem dX1_lookBack_26 : decode cX1_lookBack 26 = .ok (.isub, 1) := by decide +kernel
theorem dX1_lookBack_27 : decode cX1_lookBack 27 = .ok (.istore_n 3, 1) := by decide +kernel
theorem dX1_lookBack_28 : decode cX1_lookBack 28 = .ok (.iload_n 3, 1) := by decide +kernel
theorem dX1_lookBack_29 : decode cX1_lookBack 29 = .ok (.ifCond .lt 53, 3) := by decide +kernel
theorem dX1_lookBack_32 : decode cX1_lookBack 32 = .ok (.aload_n 0, 1) := by decide +kernel
theorem dX1_lookBack_33 : decode cX1_lookBack 33 = .ok (.getfield 15, 3) := by decide +kernel
theorem dX1_lookBack_36 : decode cX1_lookBack 36 = .ok (.iload_n 3, 1) := by decide +kernel
theorem dX1_lookBack_37 : decode cX1_lookBack 37 = .ok (.aload_n 1, 1) := by decide +kernel
theorem dX1_lookBack_38 : decode cX1_lookBack 38 = .ok (.aload_n 0, 1) := by decide +kernel
theorem dX1_lookBack_39 : decode cX1_lookBack 39 = .ok (.getfield 21, 3) := by decide +kernel
theorem dX1_lookBack_42 : decode cX1_lookBack 42 = .ok (.aload_n 0, 1) := by decide +kernel
theorem dX1_lookBack_43 : decode cX1_lookBack 43 = .ok (.getfield 15, 3) := by decide +kernel
theorem dX1_lookBack_46 : decode cX1_lookBack 46 = .ok (.iload_n 3, 1) := by decide +kernel
theorem dX1_lookBack_47 : decode cX1_lookBack 47 = .ok (.iconst 1, 1) := by decide +kernel
theorem dX1_lookBack_48 : decode cX1_lookBack 48 = .ok (.iadd, 1) := by decide +kernel
theorem dX1_lookBack_49 : decode cX1_lookBack 49 = .ok (.iaload, 1) := by decide +kernel
theorem dX1_lookBack_50 : decode cX1_lookBack 50 = .ok (.invokevirtual 66, 3) := by decide +kernel
theorem dX1_lookBack_53 : decode cX1_lookBack 53 = .ok (.iastore, 1) := by decide +kernel
theorem dX1_lookBack_54 : decode cX1_lookBack 54 = .ok (.aload_n 0, 1) := by decide +kernel
theorem dX1_lookBack_55 : decode cX1_lookBack 55 = .ok (.getfield 18, 3) := by decide +kernel
theorem dX1_lookBack_58 : decode cX1_lookBack 58 = .ok (.iload_n 3, 1) := by decide +kernel
theorem dX1_lookBack_59 : decode cX1_lookBack 59 = .ok (.aload_n 1, 1) := by decide +kernel
theorem dX1_lookBack_60 : decode cX1_lookBack 60 = .ok (.aload_n 0, 1) := by decide +kernel
theorem dX1_lookBack_61 : decode cX1_lookBack 61 = .ok (.getfield 21, 3) := by decide +kernel
theorem dX1_lookBack_64 : decode cX1_lookBack 64 = .ok (.aload_n 0, 1) := by decide +kernel
theorem dX1_lookBack_65 : decode cX1_lookBack 65 = .ok (.iload_n 3, 1) := by decide +kernel
theorem dX1_lookBack_66 : decode cX1_lookBack 66 = .ok (.iconst 1, 1) := by decide +kernel
theorem dX1_lookBack_67 : decode cX1_lookBack 67 = .ok (.iadd, 1) := by decide +kernel
theorem dX1_lookBack_68 : decode cX1_lookBack 68 = .ok (.iload_n 2, 1) := by decide +kernel
theorem dX1_lookBack_69 : decode cX1_lookBack 69 = .ok (.invokevirtual 69, 3) := by decide +kernel
theorem dX1_lookBack_72 : decode cX1_lookBack 72 = .ok (.invokevirtual 66, 3) := by decide +kernel
theorem dX1_lookBack_75 : decode cX1_lookBack 75 = .ok (.iastore, 1) := by decide +kernel
theorem dX1_lookBack_76 : decode cX1_lookBack 76 = .ok (.iinc 3 (-1), 3) := by decide +kernel
theorem dX1_lookBack_79 : decode cX1_lookBack 79 = .ok (.goto (-51), 3) := by decide +kernel
theorem dX1_lookBack_82 : decode cX1_lookBack 82 = .ok (.return_, 1) := by decide +kernel
theorem dX1_goodWithout_0 : decode cX1_goodWithout 0 = .ok (.iload_n 1, 1) := by decide +kernel
theorem dX1_goodWithout_1 : decode cX1_goodWithout 1 = .ok (.iload_n 2, 1) := by decide +kernel
theorem dX1_goodWithout_2 : decode cX1_goodWithout 2 = .ok (.if_icmp .ne 7, 3) := by decide +kernel
theorem dX1_goodWithout_5 : decode cX1_goodWithout 5 = .ok (.iconst 0, 1) := by decide +kernel
theorem dX1_goodWithout_6 : decode cX1_goodWithout 6 = .ok (.goto 9, 3) := by decide +kernel
theorem dX1_goodWithout_9 : decode cX1_goodWithout 9 = .ok (.aload_n 0, 1) := by decide +kernel
theorem dX1_goodWithout_10 : decode cX1_goodWithout 10 = .ok (.getfield 9, 3) := by decide +kernel
theorem dX1_goodWithout_13 : decode cX1_goodWithout 13 = .ok (.iload_n 1, 1) := by decide +kernel
theorem dX1_goodWithout_14 : decode cX1_goodWithout 14 = .ok (.iaload, 1) := by decide +kernel
theorem dX1_goodWithout_15 : decode cX1_goodWithout 15 = .ok (.istore_n 3, 1) := by decide +kernel
theorem dX1_goodWithout_16 : decode cX1_goodWithout 16 = .ok (.iload_n 3, 1) := by decide +kernel
theorem dX1_goodWithout_17 : decode cX1_goodWithout 17 = .ok (.aload_n 0, 1) := by decide +kernel
theorem dX1_goodWithout_18 : decode cX1_goodWithout 18 = .ok (.getfield 15, 3) := by decide +kernel
theorem dX1_goodWithout_21 : decode cX1_goodWithout 21 = .ok (.iload_n 1, 1) := by decide +kernel
theorem dX1_goodWithout_22 : decode cX1_goodWithout 22 = .ok (.iaload, 1) := by decide +kernel
theorem dX1_goodWithout_23 : decode cX1_goodWithout 23 = .ok (.iand, 1) := by decide +kernel
theorem dX1_goodWithout_24 : decode cX1_goodWithout 24 = .ok (.iload_n 3, 1) := by decide +kernel
theorem dX1_goodWithout_25 : decode cX1_goodWithout 25 = .ok (.iconst (-1), 1) := by decide +kernel
theorem dX1_goodWithout_26 : decode cX1_goodWithout 26 = .ok (.ixor, 1) := by decide +kernel
theorem dX1_goodWithout_27 : decode cX1_goodWithout 27 = .ok (.aload_n 0, 1) := by decide +kernel
theorem dX1_goodWithout_28 : decode cX1_goodWithout 28 = .ok (.getfield 18, 3) := by decide +kernel
theorem dX1_goodWithout_31 : decode cX1_goodWithout 31 = .ok (.iload_n 1, 1) := by decide +kernel
theorem dX1_goodWithout_32 : decode cX1_goodWithout 32 = .ok (.iaload, 1) := by decide +kernel
theorem dX1_goodWithout_33 : decode cX1_goodWithout 33 = .ok (.iand, 1) := by decide +kernel
theorem dX1_goodWithout_34 : decode cX1_goodWithout 34 = .ok (.ior, 1) := by decide +kernel
theorem dX1_goodWithout_35 : decode cX1_goodWithout 35 = .ok (.ireturn, 1) := by decide +kernel
theorem dX1_roomAt_0 : decode cX1_roomAt 0 = .ok (.aload_n 1, 1) := by decide +kernel
theorem dX1_roomAt_1 : decode cX1_roomAt 1 = .ok (.aload_n 0, 1) := by decide +kernel
theorem dX1_roomAt_2 : decode cX1_roomAt 2 = .ok (.getfield 21, 3) := by decide +kernel
theorem dX1_roomAt_5 : decode cX1_roomAt 5 = .ok (.iconst 0, 1) := by decide +kernel
theorem dX1_roomAt_6 : decode cX1_roomAt 6 = .ok (.invokevirtual 45, 3) := by decide +kernel
theorem dX1_roomAt_9 : decode cX1_roomAt 9 = .ok (.istore 4, 2) := by decide +kernel
theorem dX1_roomAt_11 : decode cX1_roomAt 11 = .ok (.aload_n 0, 1) := by decide +kernel
theorem dX1_roomAt_12 : decode cX1_roomAt 12 = .ok (.getfield 55, 3) := by decide +kernel
theorem dX1_roomAt_15 : decode cX1_roomAt 15 = .ok (.istore 5, 2) := by decide +kernel
theorem dX1_roomAt_17 : decode cX1_roomAt 17 = .ok (.iconst 1, 1) := by decide +kernel
theorem dX1_roomAt_18 : decode cX1_roomAt 18 = .ok (.istore 6, 2) := by decide +kernel
theorem dX1_roomAt_20 : decode cX1_roomAt 20 = .ok (.iload 6, 2) := by decide +kernel
theorem dX1_roomAt_22 : decode cX1_roomAt 22 = .ok (.iload_n 3, 1) := by decide +kernel
theorem dX1_roomAt_23 : decode cX1_roomAt 23 = .ok (.if_icmp .gt 99, 3) := by decide +kernel
theorem dX1_roomAt_26 : decode cX1_roomAt 26 = .ok (.iload 6, 2) := by decide +kernel
theorem dX1_roomAt_28 : decode cX1_roomAt 28 = .ok (.iload_n 2, 1) := by decide +kernel
theorem dX1_roomAt_29 : decode cX1_roomAt 29 = .ok (.if_icmp .gt 93, 3) := by decide +kernel
theorem dX1_roomAt_32 : decode cX1_roomAt 32 = .ok (.iload 5, 2) := by decide +kernel
theorem dX1_roomAt_34 : decode cX1_roomAt 34 = .ok (.ifCond .eq 13, 3) := by decide +kernel
theorem dX1_roomAt_37 : decode cX1_roomAt 37 = .ok (.aload_n 0, 1) := by decide +kernel
theorem dX1_roomAt_38 : decode cX1_roomAt 38 = .ok (.getfield 15, 3) := by decide +kernel
theorem dX1_roomAt_41 : decode cX1_roomAt 41 = .ok (.iload 6, 2) := by decide +kernel
theorem dX1_roomAt_43 : decode cX1_roomAt 43 = .ok (.iaload, 1) := by decide +kernel
theorem dX1_roomAt_44 : decode cX1_roomAt 44 = .ok (.goto 10, 3) := by decide +kernel
theorem dX1_roomAt_47 : decode cX1_roomAt 47 = .ok (.aload_n 0, 1) := by decide +kernel
theorem dX1_roomAt_48 : decode cX1_roomAt 48 = .ok (.iload 6, 2) := by decide +kernel
theorem dX1_roomAt_50 : decode cX1_roomAt 50 = .ok (.iload_n 2, 1) := by decide +kernel
theorem dX1_roomAt_51 : decode cX1_roomAt 51 = .ok (.invokevirtual 69, 3) := by decide +kernel
theorem dX1_roomAt_54 : decode cX1_roomAt 54 = .ok (.istore 7, 2) := by decide +kernel
theorem dX1_roomAt_56 : decode cX1_roomAt 56 = .ok (.aload_n 1, 1) := by decide +kernel
theorem dX1_roomAt_57 : decode cX1_roomAt 57 = .ok (.aload_n 0, 1) := by decide +kernel
theorem dX1_roomAt_58 : decode cX1_roomAt 58 = .ok (.getfield 21, 3) := by decide +kernel
theorem dX1_roomAt_61 : decode cX1_roomAt 61 = .ok (.iload 4, 2) := by decide +kernel
theorem dX1_roomAt_63 : decode cX1_roomAt 63 = .ok (.invokevirtual 72, 3) := by decide +kernel
theorem dX1_roomAt_66 : decode cX1_roomAt 66 = .ok (.iload 7, 2) := by decide +kernel
theorem dX1_roomAt_68 : decode cX1_roomAt 68 = .ok (.iand, 1) := by decide +kernel
theorem dX1_roomAt_69 : decode cX1_roomAt 69 = .ok (.invokestatic 75, 3) := by decide +kernel
theorem dX1_roomAt_72 : decode cX1_roomAt 72 = .ok (.istore 8, 2) := by decide +kernel
theorem dX1_roomAt_74 : decode cX1_roomAt 74 = .ok (.iload 8, 2) := by decide +kernel
theorem dX1_roomAt_76 : decode cX1_roomAt 76 = .ok (.iconst (-1), 1) := by decide +kernel
theorem dX1_roomAt_77 : decode cX1_roomAt 77 = .ok (.if_icmp .ne 8, 3) := by decide +kernel
theorem dX1_roomAt_80 : decode cX1_roomAt 80 = .ok (.iload 4, 2) := by decide +kernel
theorem dX1_roomAt_82 : decode cX1_roomAt 82 = .ok (.goto 5, 3) := by decide +kernel
theorem dX1_roomAt_85 : decode cX1_roomAt 85 = .ok (.iload 8, 2) := by decide +kernel
theorem dX1_roomAt_87 : decode cX1_roomAt 87 = .ok (.istore 4, 2) := by decide +kernel
theorem dX1_roomAt_89 : decode cX1_roomAt 89 = .ok (.iload 5, 2) := by decide +kernel
theorem dX1_roomAt_91 : decode cX1_roomAt 91 = .ok (.ifCond .ne 18, 3) := by decide +kernel
theorem dX1_roomAt_94 : decode cX1_roomAt 94 = .ok (.aload_n 0, 1) := by decide +kernel
theorem dX1_roomAt_95 : decode cX1_roomAt 95 = .ok (.getfield 9, 3) := by decide +kernel
theorem dX1_roomAt_98 : decode cX1_roomAt 98 = .ok (.iload 6, 2) := by decide +kernel
theorem dX1_roomAt_100 : decode cX1_roomAt 100 = .ok (.iaload, 1) := by decide +kernel
theorem dX1_roomAt_101 : decode cX1_roomAt 101 = .ok (.iload 4, 2) := by decide +kernel
theorem dX1_roomAt_103 : decode cX1_roomAt 103 = .ok (.invokestatic 51, 3) := by decide +kernel
theorem dX1_roomAt_106 : decode cX1_roomAt 106 = .ok (.ifCond .eq 7, 3) := by decide +kernel
theorem dX1_roomAt_109 : decode cX1_roomAt 109 = .ok (.iconst 1, 1) := by decide +kernel
theorem dX1_roomAt_110 : decode cX1_roomAt 110 = .ok (.goto 4, 3) := by decide +kernel
theorem dX1_roomAt_113 : decode cX1_roomAt 113 = .ok (.iconst 0, 1) := by decide +kernel
theorem dX1_roomAt_114 : decode cX1_roomAt 114 = .ok (.istore 5, 2) := by decide +kernel
theorem dX1_roomAt_116 : decode cX1_roomAt 116 = .ok (.iinc 6 1, 3) := by decide +kernel
theorem dX1_roomAt_119 : decode cX1_roomAt 119 = .ok (.goto (-99), 3) := by decide +kernel
theorem dX1_roomAt_122 : decode cX1_roomAt 122 = .ok (.iload 4, 2) := by decide +kernel
theorem dX1_roomAt_124 : decode cX1_roomAt 124 = .ok (.ireturn, 1) := by decide +kernel
theorem dX2_settle_0 : decode cX2_settle 0 = .ok (.aload_n 0, 1) := by decide +kernel
theorem dX2_settle_1 : decode cX2_settle 1 = .ok (.aload_n 1, 1) := by decide +kernel
theorem dX2_settle_2 : decode cX2_settle 2 = .ok (.iload_n 2, 1) := by decide +kernel
theorem dX2_settle_3 : decode cX2_settle 3 = .ok (.iload_n 3, 1) := by decide +kernel
theorem dX2_settle_4 : decode cX2_settle 4 = .ok (.invokevirtual 27, 3) := by decide +kernel
theorem dX2_settle_7 : decode cX2_settle 7 = .ok (.aload_n 0, 1) := by decide +kernel
theorem dX2_settle_8 : decode cX2_settle 8 = .ok (.aload_n 1, 1) := by decide +kernel
theorem dX2_settle_9 : decode cX2_settle 9 = .ok (.invokevirtual 31, 3) := by decide +kernel
theorem dX2_settle_12 : decode cX2_settle 12 = .ok (.iconst 0, 1) := by decide +kernel
theorem dX2_settle_13 : decode cX2_settle 13 = .ok (.istore 4, 2) := by decide +kernel
theorem dX2_settle_15 : decode cX2_settle 15 = .ok (.iload 4, 2) := by decide +kernel
theorem dX2_settle_17 : decode cX2_settle 17 = .ok (.aload_n 0, 1) := by decide +kernel
theorem dX2_settle_18 : decode cX2_settle 18 = .ok (.getfield 35, 3) := by decide +kernel
theorem dX2_settle_21 : decode cX2_settle 21 = .ok (.if_icmp .ge 25, 3) := by decide +kernel
theorem dX2_settle_24 : decode cX2_settle 24 = .ok (.aload_n 0, 1) := by decide +kernel
theorem dX2_settle_25 : decode cX2_settle 25 = .ok (.iload 4, 2) := by decide +kernel
theorem dX2_settle_27 : decode cX2_settle 27 = .ok (.aload_n 1, 1) := by decide +kernel
theorem dX2_settle_28 : decode cX2_settle 28 = .ok (.getfield 39, 3) := by decide +kernel
theorem dX2_settle_31 : decode cX2_settle 31 = .ok (.iload 4, 2) := by decide +kernel
theorem dX2_settle_33 : decode cX2_settle 33 = .ok (.iconst 0, 1) := by decide +kernel
theorem dX2_settle_34 : decode cX2_settle 34 = .ok (.invokevirtual 44, 3) := by decide +kernel
theorem dX2_settle_37 : decode cX2_settle 37 = .ok (.invokevirtual 50, 3) := by decide +kernel
theorem dX2_settle_40 : decode cX2_settle 40 = .ok (.iinc 4 1, 3) := by decide +kernel
theorem dX2_settle_43 : decode cX2_settle 43 = .ok (.goto (-28), 3) := by decide +kernel
theorem dX2_settle_46 : decode cX2_settle 46 = .ok (.aload_n 0, 1) := by decide +kernel
theorem dX2_settle_47 : decode cX2_settle 47 = .ok (.invokevirtual 54, 3) := by decide +kernel
theorem dX2_settle_50 : decode cX2_settle 50 = .ok (.return_, 1) := by decide +kernel
theorem dX2_openDoors_0 : decode cX2_openDoors 0 = .ok (.aload_n 0, 1) := by decide +kernel
theorem dX2_openDoors_1 : decode cX2_openDoors 1 = .ok (.aload_n 1, 1) := by decide +kernel
theorem dX2_openDoors_2 : decode cX2_openDoors 2 = .ok (.getfield 39, 3) := by decide +kernel
theorem dX2_openDoors_5 : decode cX2_openDoors 5 = .ok (.getfield 57, 3) := by decide +kernel
theorem dX2_openDoors_8 : decode cX2_openDoors 8 = .ok (.putfield 35, 3) := by decide +kernel
theorem dX2_openDoors_11 : decode cX2_openDoors 11 = .ok (.aload_n 0, 1) := by decide +kernel
theorem dX2_openDoors_12 : decode cX2_openDoors 12 = .ok (.aload_n 1, 1) := by decide +kernel
theorem dX2_openDoors_13 : decode cX2_openDoors 13 = .ok (.getfield 60, 3) := by decide +kernel
theorem dX2_openDoors_16 : decode cX2_openDoors 16 = .ok (.putfield 63, 3) := by decide +kernel
theorem dX2_openDoors_19 : decode cX2_openDoors 19 = .ok (.aload_n 0, 1) := by decide +kernel
theorem dX2_openDoors_20 : decode cX2_openDoors 20 = .ok (.aload_n 1, 1) := by decide +kernel
theorem dX2_openDoors_21 : decode cX2_openDoors 21 = .ok (.getfield 64, 3) := by decide +kernel
theorem dX2_openDoors_24 : decode cX2_openDoors 24 = .ok (.putfield 67, 3) := by decide +kernel
theorem dX2_openDoors_27 : decode cX2_openDoors 27 = .ok (.iconst 0, 1) := by decide +kernel
theorem dX2_openDoors_28 : decode cX2_openDoors 28 = .ok (.istore 4, 2) := by decide +kernel
theorem dX2_openDoors_30 : decode cX2_openDoors 30 = .ok (.iload 4, 2) := by decide +kernel
theorem dX2_openDoors_32 : decode cX2_openDoors 32 = .ok (.aload_n 0, 1) := by decide +kernel
theorem dX2_openDoors_33 : decode cX2_openDoors 33 = .ok (.getfield 35, 3) := by decide +kernel
theorem dX2_openDoors_36 : decode cX2_openDoors 36 = .ok (.if_icmp .ge 44, 3) := by decide +kernel
theorem dX2_openDoors_39 : decode cX2_openDoors 39 = .ok (.iconst 0, 1) := by decide +kernel
theorem dX2_openDoors_40 : decode cX2_openDoors 40 = .ok (.istore 5, 2) := by decide +kernel
theorem dX2_openDoors_42 : decode cX2_openDoors 42 = .ok (.iload 5, 2) := by decide +kernel
theorem dX2_openDoors_44 : decode cX2_openDoors 44 = .ok (.aload_n 0, 1) := by decide +kernel
theorem dX2_openDoors_45 : decode cX2_openDoors 45 = .ok (.getfield 63, 3) := by decide +kernel
theorem dX2_openDoors_48 : decode cX2_openDoors 48 = .ok (.if_icmp .ge 26, 3) := by decide +kernel
theorem dX2_openDoors_51 : decode cX2_openDoors 51 = .ok (.aload_n 0, 1) := by decide +kernel
theorem dX2_openDoors_52 : decode cX2_openDoors 52 = .ok (.getfield 9, 3) := by decide +kernel
theorem dX2_openDoors_55 : decode cX2_openDoors 55 = .ok (.iload 4, 2) := by decide +kernel
theorem dX2_openDoors_57 : decode cX2_openDoors 57 = .ok (.bipush 8, 2) := by decide +kernel
theorem dX2_openDoors_59 : decode cX2_openDoors 59 = .ok (.imul, 1) := by decide +kernel
theorem dX2_openDoors_60 : decode cX2_openDoors 60 = .ok (.iload 5, 2) := by decide +kernel
theorem dX2_openDoors_62 : decode cX2_openDoors 62 = .ok (.iadd, 1) := by decide +kernel
theorem dX2_openDoors_63 : decode cX2_openDoors 63 = .ok (.iconst 1, 1) := by decide +kernel
theorem dX2_openDoors_64 : decode cX2_openDoors 64 = .ok (.iload 5, 2) := by decide +kernel
theorem dX2_openDoors_66 : decode cX2_openDoors 66 = .ok (.ishl, 1) := by decide +kernel
theorem dX2_openDoors_67 : decode cX2_openDoors 67 = .ok (.iastore, 1) := by decide +kernel
theorem dX2_openDoors_68 : decode cX2_openDoors 68 = .ok (.iinc 5 1, 3) := by decide +kernel
theorem dX2_openDoors_71 : decode cX2_openDoors 71 = .ok (.goto (-29), 3) := by decide +kernel
theorem dX2_openDoors_74 : decode cX2_openDoors 74 = .ok (.iinc 4 1, 3) := by decide +kernel
theorem dX2_openDoors_77 : decode cX2_openDoors 77 = .ok (.goto (-47), 3) := by decide +kernel
theorem dX2_openDoors_80 : decode cX2_openDoors 80 = .ok (.iconst 0, 1) := by decide +kernel
theorem dX2_openDoors_81 : decode cX2_openDoors 81 = .ok (.istore 4, 2) := by decide +kernel
theorem dX2_openDoors_83 : decode cX2_openDoors 83 = .ok (.iload 4, 2) := by decide +kernel
theorem dX2_openDoors_85 : decode cX2_openDoors 85 = .ok (.aload_n 1, 1) := by decide +kernel
theorem dX2_openDoors_86 : decode cX2_openDoors 86 = .ok (.getfield 68, 3) := by decide +kernel
theorem dX2_openDoors_89 : decode cX2_openDoors 89 = .ok (.getfield 57, 3) := by decide +kernel
theorem dX2_openDoors_92 : decode cX2_openDoors 92 = .ok (.if_icmp .ge 54, 3) := by decide +kernel
theorem dX2_openDoors_95 : decode cX2_openDoors 95 = .ok (.iload 4, 2) := by decide +kernel
theorem dX2_openDoors_97 : decode cX2_openDoors 97 = .ok (.iload_n 2, 1) := by decide +kernel
theorem dX2_openDoors_98 : decode cX2_openDoors 98 = .ok (.if_icmp .eq 9, 3) := by decide +kernel
theorem dX2_openDoors_101 : decode cX2_openDoors 101 = .ok (.iload_n 2, 1) := by decide +kernel
theorem dX2_openDoors_102 : decode cX2_openDoors 102 = .ok (.bipush (-2), 2) := by decide +kernel
theorem dX2_openDoors_104 : decode cX2_openDoors 104 = .ok (.if_icmp .ne 7, 3) := by decide +kernel
theorem dX2_openDoors_107 : decode cX2_openDoors 107 = .ok (.iconst 1, 1) := by decide +kernel
theorem dX2_openDoors_108 : decode cX2_openDoors 108 = .ok (.goto 4, 3) := by decide +kernel
theorem dX2_openDoors_111 : decode cX2_openDoors 111 = .ok (.iconst 0, 1) := by decide +kernel
theorem dX2_openDoors_112 : decode cX2_openDoors 112 = .ok (.istore 5, 2) := by decide +kernel
theorem dX2_openDoors_114 : decode cX2_openDoors 114 = .ok (.aload_n 0, 1) := by decide +kernel
theorem dX2_openDoors_115 : decode cX2_openDoors 115 = .ok (.aload_n 1, 1) := by decide +kernel
theorem dX2_openDoors_116 : decode cX2_openDoors 116 = .ok (.iload 4, 2) := by decide +kernel
theorem dX2_openDoors_118 : decode cX2_openDoors 118 = .ok (.iload 5, 2) := by decide +kernel
theorem dX2_openDoors_120 : decode cX2_openDoors 120 = .ok (.ifCond .eq 7, 3) := by decide +kernel
theorem dX2_openDoors_123 : decode cX2_openDoors 123 = .ok (.iload_n 3, 1) := by decide +kernel
theorem dX2_openDoors_124 : decode cX2_openDoors 124 = .ok (.goto 13, 3) := by decide +kernel
theorem dX2_openDoors_127 : decode cX2_openDoors 127 = .ok (.aload_n 1, 1) := by decide +kernel
theorem dX2_openDoors_128 : decode cX2_openDoors 128 = .ok (.getfield 68, 3) := by decide +kernel
theorem dX2_openDoors_131 : decode cX2_openDoors 131 = .ok (.iload 4, 2) := by decide +kernel
theorem dX2_openDoors_133 : decode cX2_openDoors 133 = .ok (.iconst 2, 1) := by decide +kernel
theorem dX2_openDoors_134 : decode cX2_openDoors 134 = .ok (.invokevirtual 44, 3) := by decide +kernel
theorem dX2_openDoors_137 : decode cX2_openDoors 137 = .ok (.invokevirtual 71, 3) := by decide +kernel
theorem dX2_openDoors_140 : decode cX2_openDoors 140 = .ok (.iinc 4 1, 3) := by decide +kernel
theorem dX2_openDoors_143 : decode cX2_openDoors 143 = .ok (.goto (-60), 3) := by decide +kernel
theorem dX2_openDoors_146 : decode cX2_openDoors 146 = .ok (.return_, 1) := by decide +kernel
theorem dX2_openDoor_0 : decode cX2_openDoor 0 = .ok (.aload_n 1, 1) := by decide +kernel
theorem dX2_openDoor_1 : decode cX2_openDoor 1 = .ok (.getfield 68, 3) := by decide +kernel
theorem dX2_openDoor_4 : decode cX2_openDoor 4 = .ok (.iload_n 2, 1) := by decide +kernel
theorem dX2_openDoor_5 : decode cX2_openDoor 5 = .ok (.iconst 0, 1) := by decide +kernel
theorem dX2_openDoor_6 : decode cX2_openDoor 6 = .ok (.invokevirtual 44, 3) := by decide +kernel
theorem dX2_openDoor_9 : decode cX2_openDoor 9 = .ok (.istore 4, 2) := by decide +kernel
theorem dX2_openDoor_11 : decode cX2_openDoor 11 = .ok (.aload_n 1, 1) := by decide +kernel
theorem dX2_openDoor_12 : decode cX2_openDoor 12 = .ok (.getfield 68, 3) := by decide +kernel
theorem dX2_openDoor_15 : decode cX2_openDoor 15 = .ok (.iload_n 2, 1) := by decide +kernel
theorem dX2_openDoor_16 : decode cX2_openDoor 16 = .ok (.iconst 1, 1) := by decide +kernel
theorem dX2_openDoor_17 : decode cX2_openDoor 17 = .ok (.invokevirtual 44, 3) := by decide +kernel
theorem dX2_openDoor_20 : decode cX2_openDoor 20 = .ok (.istore 5, 2) := by decide +kernel
theorem dX2_openDoor_22 : decode cX2_openDoor 22 = .ok (.aload_n 1, 1) := by decide +kernel
theorem dX2_openDoor_23 : decode cX2_openDoor 23 = .ok (.iload 4, 2) := by decide +kernel
theorem dX2_openDoor_25 : decode cX2_openDoor 25 = .ok (.invokevirtual 74, 3) := by decide +kernel
theorem dX2_openDoor_28 : decode cX2_openDoor 28 = .ok (.ifCond .eq 12, 3) := by decide +kernel
theorem dX2_openDoor_31 : decode cX2_openDoor 31 = .ok (.aload_n 1, 1) := by decide +kernel
theorem dX2_openDoor_32 : decode cX2_openDoor 32 = .ok (.iload 5, 2) := by decide +kernel
theorem dX2_openDoor_34 : decode cX2_openDoor 34 = .ok (.invokevirtual 74, 3) := by decide +kernel
theorem dX2_openDoor_37 : decode cX2_openDoor 37 = .ok (.ifCond .ne 4, 3) := by decide +kernel
theorem dX2_openDoor_40 : decode cX2_openDoor 40 = .ok (.return_, 1) := by decide +kernel
theorem dX2_openDoor_41 : decode cX2_openDoor 41 = .ok (.iconst 0, 1) := by decide +kernel
theorem dX2_openDoor_42 : decode cX2_openDoor 42 = .ok (.istore 6, 2) := by decide +kernel
theorem dX2_openDoor_44 : decode cX2_openDoor 44 = .ok (.iload 6, 2) := by decide +kernel
theorem dX2_openDoor_46 : decode cX2_openDoor 46 = .ok (.aload_n 0, 1) := by decide +kernel
theorem dX2_openDoor_47 : decode cX2_openDoor 47 = .ok (.getfield 35, 3) := by decide +kernel
theorem dX2_openDoor_50 : decode cX2_openDoor 50 = .ok (.if_icmp .ge 63, 3) := by decide +kernel
theorem dX2_openDoor_53 : decode cX2_openDoor 53 = .ok (.aload_n 1, 1) := by decide +kernel
theorem dX2_openDoor_54 : decode cX2_openDoor 54 = .ok (.getfield 39, 3) := by decide +kernel
theorem dX2_openDoor_57 : decode cX2_openDoor 57 = .ok (.iload 6, 2) := by decide +kernel
theorem dX2_openDoor_59 : decode cX2_openDoor 59 = .ok (.iconst 1, 1) := by decide +kernel
theorem dX2_openDoor_60 : decode cX2_openDoor 60 = .ok (.invokevirtual 44, 3) := by decide +kernel
theorem dX2_openDoor_63 : decode cX2_openDoor 63 = .ok (.iload_n 3, 1) := by decide +kernel
theorem dX2_openDoor_64 : decode cX2_openDoor 64 = .ok (.if_icmp .gt 43, 3) := by decide +kernel
theorem dX2_openDoor_67 : decode cX2_openDoor 67 = .ok (.aload_n 0, 1) := by decide +kernel
theorem dX2_openDoor_68 : decode cX2_openDoor 68 = .ok (.getfield 9, 3) := by decide +kernel
theorem dX2_openDoor_71 : decode cX2_openDoor 71 = .ok (.iload 6, 2) := by decide +kernel
theorem dX2_openDoor_73 : decode cX2_openDoor 73 = .ok (.bipush 8, 2) := by decide +kernel
theorem dX2_openDoor_75 : decode cX2_openDoor 75 = .ok (.imul, 1) := by decide +kernel
theorem dX2_openDoor_76 : decode cX2_openDoor 76 = .ok (.iload 4, 2) := by decide +kernel
theorem dX2_openDoor_78 : decode cX2_openDoor 78 = .ok (.iadd, 1) := by decide +kernel
theorem dX2_openDoor_79 : decode cX2_openDoor 79 = .ok (.dup2, 1) := by decide +kernel
theorem dX2_openDoor_80 : decode cX2_openDoor 80 = .ok (.iaload, 1) := by decide +kernel
theorem dX2_openDoor_81 : decode cX2_openDoor 81 = .ok (.iconst 1, 1) := by decide +kernel
theorem dX2_openDoor_82 : decode cX2_openDoor 82 = .ok (.iload 5, 2) := by decide +kernel
theorem dX2_openDoor_84 : decode cX2_openDoor 84 = .ok (.ishl, 1) := by decide +kernel
theorem dX2_openDoor_85 : decode cX2_openDoor 85 = .ok (.ior, 1) := by decide +kernel
theorem dX2_openDoor_86 : decode cX2_openDoor 86 = .ok (.iastore, 1) := by decide +kernel
theorem dX2_openDoor_87 : decode cX2_openDoor 87 = .ok (.aload_n 0, 1) := by decide +kernel
theorem dX2_openDoor_88 : decode cX2_openDoor 88 = .ok (.getfield 9, 3) := by decide +kernel
theorem dX2_openDoor_91 : decode cX2_openDoor 91 = .ok (.iload 6, 2) := by decide +kernel
theorem dX2_openDoor_93 : decode cX2_openDoor 93 = .ok (.bipush 8, 2) := by decide +kernel
theorem dX2_openDoor_95 : decode cX2_openDoor 95 = .ok (.imul, 1) := by decide +kernel
theorem dX2_openDoor_96 : decode cX2_openDoor 96 = .ok (.iload 5, 2) := by decide +kernel
theorem dX2_openDoor_98 : decode cX2_openDoor 98 = .ok (.iadd, 1) := by decide +kernel
theorem dX2_openDoor_99 : decode cX2_openDoor 99 = .ok (.dup2, 1) := by decide +kernel
theorem dX2_openDoor_100 : decode cX2_openDoor 100 = .ok (.iaload, 1) := by decide +kernel
theorem dX2_openDoor_101 : decode cX2_openDoor 101 = .ok (.iconst 1, 1) := by decide +kernel
theorem dX2_openDoor_102 : decode cX2_openDoor 102 = .ok (.iload 4, 2) := by decide +kernel
theorem dX2_openDoor_104 : decode cX2_openDoor 104 = .ok (.ishl, 1) := by decide +kernel
theorem dX2_openDoor_105 : decode cX2_openDoor 105 = .ok (.ior, 1) := by decide +kernel
theorem dX2_openDoor_106 : decode cX2_openDoor 106 = .ok (.iastore, 1) := by decide +kernel
theorem dX2_openDoor_107 : decode cX2_openDoor 107 = .ok (.iinc 6 1, 3) := by decide +kernel
theorem dX2_openDoor_110 : decode cX2_openDoor 110 = .ok (.goto (-66), 3) := by decide +kernel
theorem dX2_openDoor_113 : decode cX2_openDoor 113 = .ok (.return_, 1) := by decide +kernel
theorem dX2_hearBids_0 : decode cX2_hearBids 0 = .ok (.aload_n 0, 1) := by decide +kernel
theorem dX2_hearBids_1 : decode cX2_hearBids 1 = .ok (.getfield 15, 3) := by decide +kernel
theorem dX2_hearBids_4 : decode cX2_hearBids 4 = .ok (.iconst (-1), 1) := by decide +kernel
theorem dX2_hearBids_5 : decode cX2_hearBids 5 = .ok (.invokestatic 78, 3) := by decide +kernel
theorem dX2_hearBids_8 : decode cX2_hearBids 8 = .ok (.aload_n 0, 1) := by decide +kernel
theorem dX2_hearBids_9 : decode cX2_hearBids 9 = .ok (.getfield 18, 3) := by decide +kernel
theorem dX2_hearBids_12 : decode cX2_hearBids 12 = .ok (.iconst (-1), 1) := by decide +kernel
theorem dX2_hearBids_13 : decode cX2_hearBids 13 = .ok (.invokestatic 78, 3) := by decide +kernel
theorem dX2_hearBids_16 : decode cX2_hearBids 16 = .ok (.iconst 0, 1) := by decide +kernel
theorem dX2_hearBids_17 : decode cX2_hearBids 17 = .ok (.istore_n 2, 1) := by decide +kernel
theorem dX2_hearBids_18 : decode cX2_hearBids 18 = .ok (.iload_n 2, 1) := by decide +kernel
theorem dX2_hearBids_19 : decode cX2_hearBids 19 = .ok (.aload_n 1, 1) := by decide +kernel
theorem dX2_hearBids_20 : decode cX2_hearBids 20 = .ok (.getfield 84, 3) := by decide +kernel
theorem dX2_hearBids_23 : decode cX2_hearBids 23 = .ok (.getfield 57, 3) := by decide +kernel
theorem dX2_hearBids_26 : decode cX2_hearBids 26 = .ok (.if_icmp .ge 40, 3) := by decide +kernel
theorem dX2_hearBids_29 : decode cX2_hearBids 29 = .ok (.aload_n 0, 1) := by decide +kernel
theorem dX2_hearBids_30 : decode cX2_hearBids 30 = .ok (.aload_n 1, 1) := by decide +kernel
theorem dX2_hearBids_31 : decode cX2_hearBids 31 = .ok (.getfield 84, 3) := by decide +kernel
theorem dX2_hearBids_34 : decode cX2_hearBids 34 = .ok (.iload_n 2, 1) := by decide +kernel
theorem dX2_hearBids_35 : decode cX2_hearBids 35 = .ok (.iconst 0, 1) := by decide +kernel
theorem dX2_hearBids_36 : decode cX2_hearBids 36 = .ok (.invokevirtual 44, 3) := by decide +kernel
theorem dX2_hearBids_39 : decode cX2_hearBids 39 = .ok (.aload_n 1, 1) := by decide +kernel
theorem dX2_hearBids_40 : decode cX2_hearBids 40 = .ok (.getfield 84, 3) := by decide +kernel
theorem dX2_hearBids_43 : decode cX2_hearBids 43 = .ok (.iload_n 2, 1) := by decide +kernel
theorem dX2_hearBids_44 : decode cX2_hearBids 44 = .ok (.iconst 1, 1) := by decide +kernel
theorem dX2_hearBids_45 : decode cX2_hearBids 45 = .ok (.invokevirtual 44, 3) := by decide +kernel
theorem dX2_hearBids_48 : decode cX2_hearBids 48 = .ok (.aload_n 1, 1) := by decide +kernel
theorem dX2_hearBids_49 : decode cX2_hearBids 49 = .ok (.getfield 84, 3) := by decide +kernel
theorem dX2_hearBids_52 : decode cX2_hearBids 52 = .ok (.iload_n 2, 1) := by decide +kernel
theorem dX2_hearBids_53 : decode cX2_hearBids 53 = .ok (.iconst 2, 1) := by decide +kernel
theorem dX2_hearBids_54 : decode cX2_hearBids 54 = .ok (.invokevirtual 44, 3) := by decide +kernel
theorem dX2_hearBids_57 : decode cX2_hearBids 57 = .ok (.invokevirtual 87, 3) := by decide +kernel
theorem dX2_hearBids_60 : decode cX2_hearBids 60 = .ok (.iinc 2 1, 3) := by decide +kernel
theorem dX2_hearBids_63 : decode cX2_hearBids 63 = .ok (.goto (-45), 3) := by decide +kernel
theorem dX2_hearBids_66 : decode cX2_hearBids 66 = .ok (.iconst 0, 1) := by decide +kernel
theorem dX2_hearBids_67 : decode cX2_hearBids 67 = .ok (.istore_n 2, 1) := by decide +kernel
theorem dX2_hearBids_68 : decode cX2_hearBids 68 = .ok (.iload_n 2, 1) := by decide +kernel
theorem dX2_hearBids_69 : decode cX2_hearBids 69 = .ok (.aload_n 1, 1) := by decide +kernel
theorem dX2_hearBids_70 : decode cX2_hearBids 70 = .ok (.getfield 91, 3) := by decide +kernel
theorem dX2_hearBids_73 : decode cX2_hearBids 73 = .ok (.getfield 57, 3) := by decide +kernel
theorem dX2_hearBids_76 : decode cX2_hearBids 76 = .ok (.if_icmp .ge 52, 3) := by decide +kernel
theorem dX2_hearBids_79 : decode cX2_hearBids 79 = .ok (.aload_n 1, 1) := by decide +kernel
theorem dX2_hearBids_80 : decode cX2_hearBids 80 = .ok (.getfield 91, 3) := by decide +kernel
theorem dX2_hearBids_83 : decode cX2_hearBids 83 = .ok (.iload_n 2, 1) := by decide +kernel
theorem dX2_hearBids_84 : decode cX2_hearBids 84 = .ok (.iconst 0, 1) := by decide +kernel
theorem dX2_hearBids_85 : decode cX2_hearBids 85 = .ok (.invokevirtual 44, 3) := by decide +kernel
theorem dX2_hearBids_88 : decode cX2_hearBids 88 = .ok (.ifCond .ne 34, 3) := by decide +kernel
theorem dX2_hearBids_91 : decode cX2_hearBids 91 = .ok (.aload_n 0, 1) := by decide +kernel
theorem dX2_hearBids_92 : decode cX2_hearBids 92 = .ok (.aload_n 1, 1) := by decide +kernel
theorem dX2_hearBids_93 : decode cX2_hearBids 93 = .ok (.getfield 91, 3) := by decide +kernel
theorem dX2_hearBids_96 : decode cX2_hearBids 96 = .ok (.iload_n 2, 1) := by decide +kernel
theorem dX2_hearBids_97 : decode cX2_hearBids 97 = .ok (.iconst 1, 1) := by decide +kernel
theorem dX2_hearBids_98 : decode cX2_hearBids 98 = .ok (.invokevirtual 44, 3) := by decide +kernel
theorem dX2_hearBids_101 : decode cX2_hearBids 101 = .ok (.aload_n 1, 1) := by decide +kernel
theorem dX2_hearBids_102 : decode cX2_hearBids 102 = .ok (.getfield 91, 3) := by decide +kernel
theorem dX2_hearBids_105 : decode cX2_hearBids 105 = .ok (.iload_n 2, 1) := by decide +kernel
theorem dX2_hearBids_106 : decode cX2_hearBids 106 = .ok (.iconst 2, 1) := by decide +kernel
theorem dX2_hearBids_107 : decode cX2_hearBids 107 = .ok (.invokevirtual 44, 3) := by decide +kernel
theorem dX2_hearBids_110 : decode cX2_hearBids 110 = .ok (.aload_n 1, 1) := by decide +kernel
theorem dX2_hearBids_111 : decode cX2_hearBids 111 = .ok (.getfield 91, 3) := by decide +kernel
theorem dX2_hearBids_114 : decode cX2_hearBids 114 = .ok (.iload_n 2, 1) := by decide +kernel
theorem dX2_hearBids_115 : decode cX2_hearBids 115 = .ok (.iconst 3, 1) := by decide +kernel
theorem dX2_hearBids_116 : decode cX2_hearBids 116 = .ok (.invokevirtual 44, 3) := by decide +kernel
theorem dX2_hearBids_119 : decode cX2_hearBids 119 = .ok (.invokevirtual 87, 3) := by decide +kernel
theorem dX2_hearBids_122 : decode cX2_hearBids 122 = .ok (.iinc 2 1, 3) := by decide +kernel
theorem dX2_hearBids_125 : decode cX2_hearBids 125 = .ok (.goto (-57), 3) := by decide +kernel
theorem dX2_hearBids_128 : decode cX2_hearBids 128 = .ok (.return_, 1) := by decide +kernel
theorem dX2_hearBid_0 : decode cX2_hearBid 0 = .ok (.iload_n 1, 1) := by decide +kernel
theorem dX2_hearBid_1 : decode cX2_hearBid 1 = .ok (.ifCond .lt 15, 3) := by decide +kernel
theorem dX2_hearBid_4 : decode cX2_hearBid 4 = .ok (.iload_n 1, 1) := by decide +kernel
theorem dX2_hearBid_5 : decode cX2_hearBid 5 = .ok (.aload_n 0, 1) := by decide +kernel
theorem dX2_hearBid_6 : decode cX2_hearBid 6 = .ok (.getfield 35, 3) := by decide +kernel
theorem dX2_hearBid_9 : decode cX2_hearBid 9 = .ok (.if_icmp .ge 7, 3) := by decide +kernel
theorem dX2_hearBid_12 : decode cX2_hearBid 12 = .ok (.iload_n 3, 1) := by decide +kernel
theorem dX2_hearBid_13 : decode cX2_hearBid 13 = .ok (.ifCond .ge 4, 3) := by decide +kernel
theorem dX2_hearBid_16 : decode cX2_hearBid 16 = .ok (.return_, 1) := by decide +kernel
theorem dX2_hearBid_17 : decode cX2_hearBid 17 = .ok (.iload_n 3, 1) := by decide +kernel
theorem dX2_hearBid_18 : decode cX2_hearBid 18 = .ok (.istore 4, 2) := by decide +kernel
theorem dX2_hearBid_20 : decode cX2_hearBid 20 = .ok (.iload 4, 2) := by decide +kernel
theorem dX2_hearBid_22 : decode cX2_hearBid 22 = .ok (.aload_n 0, 1) := by decide +kernel
theorem dX2_hearBid_23 : decode cX2_hearBid 23 = .ok (.getfield 67, 3) := by decide +kernel
theorem dX2_hearBid_26 : decode cX2_hearBid 26 = .ok (.if_icmp .gt 51, 3) := by decide +kernel
theorem dX2_hearBid_29 : decode cX2_hearBid 29 = .ok (.aload_n 0, 1) := by decide +kernel
theorem dX2_hearBid_30 : decode cX2_hearBid 30 = .ok (.getfield 18, 3) := by decide +kernel
theorem dX2_hearBid_33 : decode cX2_hearBid 33 = .ok (.iload_n 1, 1) := by decide +kernel
theorem dX2_hearBid_34 : decode cX2_hearBid 34 = .ok (.bipush 15, 2) := by decide +kernel
theorem dX2_hearBid_36 : decode cX2_hearBid 36 = .ok (.imul, 1) := by decide +kernel
theorem dX2_hearBid_37 : decode cX2_hearBid 37 = .ok (.iload 4, 2) := by decide +kernel
theorem dX2_hearBid_39 : decode cX2_hearBid 39 = .ok (.iadd, 1) := by decide +kernel
theorem dX2_hearBid_40 : decode cX2_hearBid 40 = .ok (.iaload, 1) := by decide +kernel
theorem dX2_hearBid_41 : decode cX2_hearBid 41 = .ok (.iload_n 3, 1) := by decide +kernel
theorem dX2_hearBid_42 : decode cX2_hearBid 42 = .ok (.if_icmp .gt 29, 3) := by decide +kernel
theorem dX2_hearBid_45 : decode cX2_hearBid 45 = .ok (.aload_n 0, 1) := by decide +kernel
theorem dX2_hearBid_46 : decode cX2_hearBid 46 = .ok (.getfield 18, 3) := by decide +kernel
theorem dX2_hearBid_49 : decode cX2_hearBid 49 = .ok (.iload_n 1, 1) := by decide +kernel
theorem dX2_hearBid_50 : decode cX2_hearBid 50 = .ok (.bipush 15, 2) := by decide +kernel
theorem dX2_hearBid_52 : decode cX2_hearBid 52 = .ok (.imul, 1) := by decide +kernel
theorem dX2_hearBid_53 : decode cX2_hearBid 53 = .ok (.iload 4, 2) := by decide +kernel
theorem dX2_hearBid_55 : decode cX2_hearBid 55 = .ok (.iadd, 1) := by decide +kernel
theorem dX2_hearBid_56 : decode cX2_hearBid 56 = .ok (.iload_n 3, 1) := by decide +kernel
theorem dX2_hearBid_57 : decode cX2_hearBid 57 = .ok (.iastore, 1) := by decide +kernel
theorem dX2_hearBid_58 : decode cX2_hearBid 58 = .ok (.aload_n 0, 1) := by decide +kernel
theorem dX2_hearBid_59 : decode cX2_hearBid 59 = .ok (.getfield 15, 3) := by decide +kernel
theorem dX2_hearBid_62 : decode cX2_hearBid 62 = .ok (.iload_n 1, 1) := by decide +kernel
theorem dX2_hearBid_63 : decode cX2_hearBid 63 = .ok (.bipush 15, 2) := by decide +kernel
theorem dX2_hearBid_65 : decode cX2_hearBid 65 = .ok (.imul, 1) := by decide +kernel
theorem dX2_hearBid_66 : decode cX2_hearBid 66 = .ok (.iload 4, 2) := by decide +kernel
theorem dX2_hearBid_68 : decode cX2_hearBid 68 = .ok (.iadd, 1) := by decide +kernel
theorem dX2_hearBid_69 : decode cX2_hearBid 69 = .ok (.iload_n 2, 1) := by decide +kernel
theorem dX2_hearBid_70 : decode cX2_hearBid 70 = .ok (.iastore, 1) := by decide +kernel
theorem dX2_hearBid_71 : decode cX2_hearBid 71 = .ok (.iinc 4 1, 3) := by decide +kernel
theorem dX2_hearBid_74 : decode cX2_hearBid 74 = .ok (.goto (-54), 3) := by decide +kernel
theorem dX2_hearBid_77 : decode cX2_hearBid 77 = .ok (.return_, 1) := by decide +kernel
theorem dX2_goAsBidden_0 : decode cX2_goAsBidden 0 = .ok (.iload_n 2, 1) := by decide +kernel
theorem dX2_goAsBidden_1 : decode cX2_goAsBidden 1 = .ok (.istore_n 3, 1) := by decide +kernel
theorem dX2_goAsBidden_2 : decode cX2_goAsBidden 2 = .ok (.aload_n 0, 1) := by decide +kernel
theorem dX2_goAsBidden_3 : decode cX2_goAsBidden 3 = .ok (.getfield 21, 3) := by decide +kernel
theorem dX2_goAsBidden_6 : decode cX2_goAsBidden 6 = .ok (.iload_n 1, 1) := by decide +kernel
theorem dX2_goAsBidden_7 : decode cX2_goAsBidden 7 = .ok (.bipush 15, 2) := by decide +kernel
theorem dX2_goAsBidden_9 : decode cX2_goAsBidden 9 = .ok (.imul, 1) := by decide +kernel
theorem dX2_goAsBidden_10 : decode cX2_goAsBidden 10 = .ok (.iload_n 3, 1) := by decide +kernel
theorem dX2_goAsBidden_11 : decode cX2_goAsBidden 11 = .ok (.iastore, 1) := by decide +kernel
theorem dX2_goAsBidden_12 : decode cX2_goAsBidden 12 = .ok (.iconst 0, 1) := by decide +kernel
theorem dX2_goAsBidden_13 : decode cX2_goAsBidden 13 = .ok (.istore 4, 2) := by decide +kernel
theorem dX2_goAsBidden_15 : decode cX2_goAsBidden 15 = .ok (.iload 4, 2) := by decide +kernel
theorem dX2_goAsBidden_17 : decode cX2_goAsBidden 17 = .ok (.aload_n 0, 1) := by decide +kernel
theorem dX2_goAsBidden_18 : decode cX2_goAsBidden 18 = .ok (.getfield 67, 3) := by decide +kernel
theorem dX2_goAsBidden_21 : decode cX2_goAsBidden 21 = .ok (.if_icmp .ge 38, 3) := by decide +kernel
theorem dX2_goAsBidden_24 : decode cX2_goAsBidden 24 = .ok (.aload_n 0, 1) := by decide +kernel
theorem dX2_goAsBidden_25 : decode cX2_goAsBidden 25 = .ok (.iload_n 1, 1) := by decide +kernel
theorem dX2_goAsBidden_26 : decode cX2_goAsBidden 26 = .ok (.iload_n 3, 1) := by decide +kernel
theorem dX2_goAsBidden_27 : decode cX2_goAsBidden 27 = .ok (.aload_n 0, 1) := by decide +kernel
theorem dX2_goAsBidden_28 : decode cX2_goAsBidden 28 = .ok (.iload_n 1, 1) := by decide +kernel
theorem dX2_goAsBidden_29 : decode cX2_goAsBidden 29 = .ok (.iload 4, 2) := by decide +kernel
theorem dX2_goAsBidden_31 : decode cX2_goAsBidden 31 = .ok (.invokevirtual 94, 3) := by decide +kernel
theorem dX2_goAsBidden_34 : decode cX2_goAsBidden 34 = .ok (.invokevirtual 97, 3) := by decide +kernel
theorem dX2_goAsBidden_37 : decode cX2_goAsBidden 37 = .ok (.istore_n 3, 1) := by decide +kernel
theorem dX2_goAsBidden_38 : decode cX2_goAsBidden 38 = .ok (.aload_n 0, 1) := by decide +kernel
theorem dX2_goAsBidden_39 : decode cX2_goAsBidden 39 = .ok (.getfield 21, 3) := by decide +kernel
theorem dX2_goAsBidden_42 : decode cX2_goAsBidden 42 = .ok (.iload_n 1, 1) := by decide +kernel
theorem dX2_goAsBidden_43 : decode cX2_goAsBidden 43 = .ok (.bipush 15, 2) := by decide +kernel
theorem dX2_goAsBidden_45 : decode cX2_goAsBidden 45 = .ok (.imul, 1) := by decide +kernel
theorem dX2_goAsBidden_46 : decode cX2_goAsBidden 46 = .ok (.iload 4, 2) := by decide +kernel
theorem dX2_goAsBidden_48 : decode cX2_goAsBidden 48 = .ok (.iadd, 1) := by decide +kernel
theorem dX2_goAsBidden_49 : decode cX2_goAsBidden 49 = .ok (.iconst 1, 1) := by decide +kernel
theorem dX2_goAsBidden_50 : decode cX2_goAsBidden 50 = .ok (.iadd, 1) := by decide +kernel
theorem dX2_goAsBidden_51 : decode cX2_goAsBidden 51 = .ok (.iload_n 3, 1) := by decide +kernel
theorem dX2_goAsBidden_52 : decode cX2_goAsBidden 52 = .ok (.iastore, 1) := by decide +kernel
theorem dX2_goAsBidden_53 : decode cX2_goAsBidden 53 = .ok (.iinc 4 1, 3) := by decide +kernel
theorem dX2_goAsBidden_56 : decode cX2_goAsBidden 56 = .ok (.goto (-41), 3) := by decide +kernel
theorem dX2_goAsBidden_59 : decode cX2_goAsBidden 59 = .ok (.return_, 1) := by decide +kernel
theorem dX2_nextRoom_0 : decode cX2_nextRoom 0 = .ok (.iload_n 3, 1) := by decide +kernel
theorem dX2_nextRoom_1 : decode cX2_nextRoom 1 = .ok (.iconst (-1), 1) := by decide +kernel
theorem dX2_nextRoom_2 : decode cX2_nextRoom 2 = .ok (.if_icmp .eq 8, 3) := by decide +kernel
theorem dX2_nextRoom_5 : decode cX2_nextRoom 5 = .ok (.iload_n 3, 1) := by decide +kernel
theorem dX2_nextRoom_6 : decode cX2_nextRoom 6 = .ok (.iload_n 2, 1) := by decide +kernel
theorem dX2_nextRoom_7 : decode cX2_nextRoom 7 = .ok (.if_icmp .ne 5, 3) := by decide +kernel
theorem dX2_nextRoom_10 : decode cX2_nextRoom 10 = .ok (.iload_n 2, 1) := by decide +kernel
theorem dX2_nextRoom_11 : decode cX2_nextRoom 11 = .ok (.ireturn, 1) := by decide +kernel
theorem dX2_nextRoom_12 : decode cX2_nextRoom 12 = .ok (.iconst 1, 1) := by decide +kernel
theorem dX2_nextRoom_13 : decode cX2_nextRoom 13 = .ok (.iload_n 3, 1) := by decide +kernel
theorem dX2_nextRoom_14 : decode cX2_nextRoom 14 = .ok (.ishl, 1) := by decide +kernel
theorem dX2_nextRoom_15 : decode cX2_nextRoom 15 = .ok (.istore 4, 2) := by decide +kernel
theorem dX2_nextRoom_17 : decode cX2_nextRoom 17 = .ok (.iconst 0, 1) := by decide +kernel
theorem dX2_nextRoom_18 : decode cX2_nextRoom 18 = .ok (.istore 5, 2) := by decide +kernel
theorem dX2_nextRoom_20 : decode cX2_nextRoom 20 = .ok (.iload 5, 2) := by decide +kernel
theorem dX2_nextRoom_22 : decode cX2_nextRoom 22 = .ok (.aload_n 0, 1) := by decide +kernel
theorem dX2_nextRoom_23 : decode cX2_nextRoom 23 = .ok (.getfield 63, 3) := by decide +kernel
theorem dX2_nextRoom_26 : decode cX2_nextRoom 26 = .ok (.if_icmp .ge 40, 3) := by decide +kernel
theorem dX2_nextRoom_29 : decode cX2_nextRoom 29 = .ok (.aload_n 0, 1) := by decide +kernel
theorem dX2_nextRoom_30 : decode cX2_nextRoom 30 = .ok (.iload_n 1, 1) := by decide +kernel
theorem dX2_nextRoom_31 : decode cX2_nextRoom 31 = .ok (.iload_n 2, 1) := by decide +kernel
theorem dX2_nextRoom_32 : decode cX2_nextRoom 32 = .ok (.invokevirtual 101, 3) := by decide +kernel
theorem dX2_nextRoom_35 : decode cX2_nextRoom 35 = .ok (.iload 4, 2) := by decide +kernel
theorem dX2_nextRoom_37 : decode cX2_nextRoom 37 = .ok (.iand, 1) := by decide +kernel
theorem dX2_nextRoom_38 : decode cX2_nextRoom 38 = .ok (.istore 6, 2) := by decide +kernel
theorem dX2_nextRoom_40 : decode cX2_nextRoom 40 = .ok (.iload 6, 2) := by decide +kernel
theorem dX2_nextRoom_42 : decode cX2_nextRoom 42 = .ok (.ifCond .eq 9, 3) := by decide +kernel
theorem dX2_nextRoom_45 : decode cX2_nextRoom 45 = .ok (.iload 6, 2) := by decide +kernel
theorem dX2_nextRoom_47 : decode cX2_nextRoom 47 = .ok (.invokestatic 104, 3) := by decide +kernel
theorem dX2_nextRoom_50 : decode cX2_nextRoom 50 = .ok (.ireturn, 1) := by decide +kernel
theorem dX2_nextRoom_51 : decode cX2_nextRoom 51 = .ok (.aload_n 0, 1) := by decide +kernel
theorem dX2_nextRoom_52 : decode cX2_nextRoom 52 = .ok (.iload_n 1, 1) := by decide +kernel
theorem dX2_nextRoom_53 : decode cX2_nextRoom 53 = .ok (.iload 4, 2) := by decide +kernel
theorem dX2_nextRoom_55 : decode cX2_nextRoom 55 = .ok (.invokevirtual 108, 3) := by decide +kernel
theorem dX2_nextRoom_58 : decode cX2_nextRoom 58 = .ok (.istore 4, 2) := by decide +kernel
theorem dX2_nextRoom_60 : decode cX2_nextRoom 60 = .ok (.iinc 5 1, 3) := by decide +kernel
theorem dX2_nextRoom_63 : decode cX2_nextRoom 63 = .ok (.goto (-43), 3) := by decide +kernel
theorem dX2_nextRoom_66 : decode cX2_nextRoom 66 = .ok (.iload_n 2, 1) := by decide +kernel
theorem dX2_nextRoom_67 : decode cX2_nextRoom 67 = .ok (.ireturn, 1) := by decide +kernel
theorem dX2_gather_0 : decode cX2_gather 0 = .ok (.iconst 0, 1) := by decide +kernel
theorem dX2_gather_1 : decode cX2_gather 1 = .ok (.istore_n 1, 1) := by decide +kernel
theorem dX2_gather_2 : decode cX2_gather 2 = .ok (.iload_n 1, 1) := by decide +kernel
theorem dX2_gather_3 : decode cX2_gather 3 = .ok (.aload_n 0, 1) := by decide +kernel
theorem dX2_gather_4 : decode cX2_gather 4 = .ok (.getfield 35, 3) := by decide +kernel
theorem dX2_gather_7 : decode cX2_gather 7 = .ok (.if_icmp .ge 47, 3) := by decide +kernel
theorem dX2_gather_10 : decode cX2_gather 10 = .ok (.iconst 0, 1) := by decide +kernel
theorem dX2_gather_11 : decode cX2_gather 11 = .ok (.istore_n 2, 1) := by decide +kernel
theorem dX2_gather_12 : decode cX2_gather 12 = .ok (.iload_n 2, 1) := by decide +kernel
theorem dX2_gather_13 : decode cX2_gather 13 = .ok (.aload_n 0, 1) := by decide +kernel
theorem dX2_gather_14 : decode cX2_gather 14 = .ok (.getfield 67, 3) := by decide +kernel
theorem dX2_gather_17 : decode cX2_gather 17 = .ok (.if_icmp .gt 31, 3) := by decide +kernel
theorem dX2_gather_20 : decode cX2_gather 20 = .ok (.aload_n 0, 1) := by decide +kernel
theorem dX2_gather_21 : decode cX2_gather 21 = .ok (.getfield 24, 3) := by decide +kernel
theorem dX2_gather_24 : decode cX2_gather 24 = .ok (.iload_n 1, 1) := by decide +kernel
theorem dX2_gather_25 : decode cX2_gather 25 = .ok (.bipush 15, 2) := by decide +kernel
theorem dX2_gather_27 : decode cX2_gather 27 = .ok (.imul, 1) := by decide +kernel
theorem dX2_gather_28 : decode cX2_gather 28 = .ok (.iload_n 2, 1) := by decide +kernel
theorem dX2_gather_29 : decode cX2_gather 29 = .ok (.iadd, 1) := by decide +kernel
theorem dX2_gather_30 : decode cX2_gather 30 = .ok (.aload_n 0, 1) := by decide +kernel
theorem dX2_gather_31 : decode cX2_gather 31 = .ok (.aload_n 0, 1) := by decide +kernel
theorem dX2_gather_32 : decode cX2_gather 32 = .ok (.iload_n 1, 1) := by decide +kernel
theorem dX2_gather_33 : decode cX2_gather 33 = .ok (.iload_n 2, 1) := by decide +kernel
theorem dX2_gather_34 : decode cX2_gather 34 = .ok (.invokevirtual 111, 3) := by decide +kernel
theorem dX2_gather_37 : decode cX2_gather 37 = .ok (.iload_n 2, 1) := by decide +kernel
theorem dX2_gather_38 : decode cX2_gather 38 = .ok (.invokevirtual 114, 3) := by decide +kernel
theorem dX2_gather_41 : decode cX2_gather 41 = .ok (.iastore, 1) := by decide +kernel
theorem dX2_gather_42 : decode cX2_gather 42 = .ok (.iinc 2 1, 3) := by decide +kernel
theorem dX2_gather_45 : decode cX2_gather 45 = .ok (.goto (-33), 3) := by decide +kernel
theorem dX2_gather_48 : decode cX2_gather 48 = .ok (.iinc 1 1, 3) := by decide +kernel
theorem dX2_gather_51 : decode cX2_gather 51 = .ok (.goto (-49), 3) := by decide +kernel
theorem dX2_gather_54 : decode cX2_gather 54 = .ok (.return_, 1) := by decide +kernel
theorem dX2_keepStill_0 : decode cX2_keepStill 0 = .ok (.aload_n 0, 1) := by decide +kernel
theorem dX2_keepStill_1 : decode cX2_keepStill 1 = .ok (.iload_n 1, 1) := by decide +kernel
theorem dX2_keepStill_2 : decode cX2_keepStill 2 = .ok (.iconst 0, 1) := by decide +kernel
theorem dX2_keepStill_3 : decode cX2_keepStill 3 = .ok (.invokevirtual 111, 3) := by decide +kernel
theorem dX2_keepStill_6 : decode cX2_keepStill 6 = .ok (.istore_n 2, 1) := by decide +kernel
theorem dX2_keepStill_7 : decode cX2_keepStill 7 = .ok (.iconst 1, 1) := by decide +kernel
theorem dX2_keepStill_8 : decode cX2_keepStill 8 = .ok (.istore_n 3, 1) := by decide +kernel
theorem dX2_keepStill_9 : decode cX2_keepStill 9 = .ok (.iload_n 3, 1) := by decide +kernel
theorem dX2_keepStill_10 : decode cX2_keepStill 10 = .ok (.aload_n 0, 1) := by decide +kernel
theorem dX2_keepStill_11 : decode cX2_keepStill 11 = .ok (.getfield 67, 3) := by decide +kernel
theorem dX2_keepStill_14 : decode cX2_keepStill 14 = .ok (.if_icmp .gt 21, 3) := by decide +kernel
theorem dX2_keepStill_17 : decode cX2_keepStill 17 = .ok (.aload_n 0, 1) := by decide +kernel
theorem dX2_keepStill_18 : decode cX2_keepStill 18 = .ok (.getfield 21, 3) := by decide +kernel
theorem dX2_keepStill_21 : decode cX2_keepStill 21 = .ok (.iload_n 1, 1) := by decide +kernel
theorem dX2_keepStill_22 : decode cX2_keepStill 22 = .ok (.bipush 15, 2) := by decide +kernel
theorem dX2_keepStill_24 : decode cX2_keepStill 24 = .ok (.imul, 1) := by decide +kernel
theorem dX2_keepStill_25 : decode cX2_keepStill 25 = .ok (.iload_n 3, 1) := by decide +kernel
theorem dX2_keepStill_26 : decode cX2_keepStill 26 = .ok (.iadd, 1) := by decide +kernel
theorem dX2_keepStill_27 : decode cX2_keepStill 27 = .ok (.iload_n 2, 1) := by decide +kernel
theorem dX2_keepStill_28 : decode cX2_keepStill 28 = .ok (.iastore, 1) := by decide +kernel
theorem dX2_keepStill_29 : decode cX2_keepStill 29 = .ok (.iinc 3 1, 3) := by decide +kernel
theorem dX2_keepStill_32 : decode cX2_keepStill 32 = .ok (.goto (-23), 3) := by decide +kernel
theorem dX2_keepStill_35 : decode cX2_keepStill 35 = .ok (.return_, 1) := by decide +kernel
theorem dX2_copyFrom_0 : decode cX2_copyFrom 0 = .ok (.aload_n 1, 1) := by decide +kernel
theorem dX2_copyFrom_1 : decode cX2_copyFrom 1 = .ok (.getfield 9, 3) := by decide +kernel
theorem dX2_copyFrom_4 : decode cX2_copyFrom 4 = .ok (.iconst 0, 1) := by decide +kernel
theorem dX2_copyFrom_5 : decode cX2_copyFrom 5 = .ok (.aload_n 0, 1) := by decide +kernel
theorem dX2_copyFrom_6 : decode cX2_copyFrom 6 = .ok (.getfield 9, 3) := by decide +kernel
theorem dX2_copyFrom_9 : decode cX2_copyFrom 9 = .ok (.iconst 0, 1) := by decide +kernel
theorem dX2_copyFrom_10 : decode cX2_copyFrom 10 = .ok (.aload_n 0, 1) := by decide +kernel
theorem dX2_copyFrom_11 : decode cX2_copyFrom 11 = .ok (.getfield 9, 3) := by decide +kernel
theorem dX2_copyFrom_14 : decode cX2_copyFrom 14 = .ok (.arraylength, 1) := by decide +kernel
theorem dX2_copyFrom_15 : decode cX2_copyFrom 15 = .ok (.invokestatic 117, 3) := by decide +kernel
theorem dX2_copyFrom_18 : decode cX2_copyFrom 18 = .ok (.aload_n 1, 1) := by decide +kernel
theorem dX2_copyFrom_19 : decode cX2_copyFrom 19 = .ok (.getfield 21, 3) := by decide +kernel
theorem dX2_copyFrom_22 : decode cX2_copyFrom 22 = .ok (.iconst 0, 1) := by decide +kernel
theorem dX2_copyFrom_23 : decode cX2_copyFrom 23 = .ok (.aload_n 0, 1) := by decide +kernel
theorem dX2_copyFrom_24 : decode cX2_copyFrom 24 = .ok (.getfield 21, 3) := by decide +kernel
theorem dX2_copyFrom_27 : decode cX2_copyFrom 27 = .ok (.iconst 0, 1) := by decide +kernel
theorem dX2_copyFrom_28 : decode cX2_copyFrom 28 = .ok (.aload_n 0, 1) := by decide +kernel
theorem dX2_copyFrom_29 : decode cX2_copyFrom 29 = .ok (.getfield 21, 3) := by decide +kernel
theorem dX2_copyFrom_32 : decode cX2_copyFrom 32 = .ok (.arraylength, 1) := by decide +kernel
theorem dX2_copyFrom_33 : decode cX2_copyFrom 33 = .ok (.invokestatic 117, 3) := by decide +kernel
theorem dX2_copyFrom_36 : decode cX2_copyFrom 36 = .ok (.aload_n 1, 1) := by decide +kernel
theorem dX2_copyFrom_37 : decode cX2_copyFrom 37 = .ok (.getfield 24, 3) := by decide +kernel
theorem dX2_copyFrom_40 : decode cX2_copyFrom 40 = .ok (.iconst 0, 1) := by decide +kernel
theorem dX2_copyFrom_41 : decode cX2_copyFrom 41 = .ok (.aload_n 0, 1) := by decide +kernel
theorem dX2_copyFrom_42 : decode cX2_copyFrom 42 = .ok (.getfield 24, 3) := by decide +kernel
theorem dX2_copyFrom_45 : decode cX2_copyFrom 45 = .ok (.iconst 0, 1) := by decide +kernel
theorem dX2_copyFrom_46 : decode cX2_copyFrom 46 = .ok (.aload_n 0, 1) := by decide +kernel
theorem dX2_copyFrom_47 : decode cX2_copyFrom 47 = .ok (.getfield 24, 3) := by decide +kernel
theorem dX2_copyFrom_50 : decode cX2_copyFrom 50 = .ok (.arraylength, 1) := by decide +kernel
theorem dX2_copyFrom_51 : decode cX2_copyFrom 51 = .ok (.invokestatic 117, 3) := by decide +kernel
theorem dX2_copyFrom_54 : decode cX2_copyFrom 54 = .ok (.aload_n 0, 1) := by decide +kernel
theorem dX2_copyFrom_55 : decode cX2_copyFrom 55 = .ok (.aload_n 1, 1) := by decide +kernel
theorem dX2_copyFrom_56 : decode cX2_copyFrom 56 = .ok (.getfield 35, 3) := by decide +kernel
theorem dX2_copyFrom_59 : decode cX2_copyFrom 59 = .ok (.putfield 35, 3) := by decide +kernel
theorem dX2_copyFrom_62 : decode cX2_copyFrom 62 = .ok (.aload_n 0, 1) := by decide +kernel
theorem dX2_copyFrom_63 : decode cX2_copyFrom 63 = .ok (.aload_n 1, 1) := by decide +kernel
theorem dX2_copyFrom_64 : decode cX2_copyFrom 64 = .ok (.getfield 63, 3) := by decide +kernel
theorem dX2_copyFrom_67 : decode cX2_copyFrom 67 = .ok (.putfield 63, 3) := by decide +kernel
theorem dX2_copyFrom_70 : decode cX2_copyFrom 70 = .ok (.aload_n 0, 1) := by decide +kernel
theorem dX2_copyFrom_71 : decode cX2_copyFrom 71 = .ok (.aload_n 1, 1) := by decide +kernel
theorem dX2_copyFrom_72 : decode cX2_copyFrom 72 = .ok (.getfield 67, 3) := by decide +kernel
theorem dX2_copyFrom_75 : decode cX2_copyFrom 75 = .ok (.putfield 67, 3) := by decide +kernel
theorem dX2_copyFrom_78 : decode cX2_copyFrom 78 = .ok (.return_, 1) := by decide +kernel
theorem dX2_stepsFrom_0 : decode cX2_stepsFrom 0 = .ok (.iload_n 1, 1) := by decide +kernel
theorem dX2_stepsFrom_1 : decode cX2_stepsFrom 1 = .ok (.ifCond .lt 23, 3) := by decide +kernel
theorem dX2_stepsFrom_4 : decode cX2_stepsFrom 4 = .ok (.iload_n 1, 1) := by decide +kernel
theorem dX2_stepsFrom_5 : decode cX2_stepsFrom 5 = .ok (.aload_n 0, 1) := by decide +kernel
theorem dX2_stepsFrom_6 : decode cX2_stepsFrom 6 = .ok (.getfield 35, 3) := by decide +kernel
theorem dX2_stepsFrom_9 : decode cX2_stepsFrom 9 = .ok (.if_icmp .ge 15, 3) := by decide +kernel
theorem dX2_stepsFrom_12 : decode cX2_stepsFrom 12 = .ok (.iload_n 2, 1) := by decide +kernel
theorem dX2_stepsFrom_13 : decode cX2_stepsFrom 13 = .ok (.ifCond .lt 11, 3) := by decide +kernel
theorem dX2_stepsFrom_16 : decode cX2_stepsFrom 16 = .ok (.iload_n 2, 1) := by decide +kernel
theorem dX2_stepsFrom_17 : decode cX2_stepsFrom 17 = .ok (.aload_n 0, 1) := by decide +kernel
theorem dX2_stepsFrom_18 : decode cX2_stepsFrom 18 = .ok (.getfield 63, 3) := by decide +kernel
theorem dX2_stepsFrom_21 : decode cX2_stepsFrom 21 = .ok (.if_icmp .lt 5, 3) := by decide +kernel
theorem dX2_stepsFrom_24 : decode cX2_stepsFrom 24 = .ok (.iconst 0, 1) := by decide +kernel
theorem dX2_stepsFrom_25 : decode cX2_stepsFrom 25 = .ok (.ireturn, 1) := by decide +kernel
theorem dX2_stepsFrom_26 : decode cX2_stepsFrom 26 = .ok (.aload_n 0, 1) := by decide +kernel
theorem dX2_stepsFrom_27 : decode cX2_stepsFrom 27 = .ok (.getfield 9, 3) := by decide +kernel
theorem dX2_stepsFrom_30 : decode cX2_stepsFrom 30 = .ok (.iload_n 1, 1) := by decide +kernel
theorem dX2_stepsFrom_31 : decode cX2_stepsFrom 31 = .ok (.bipush 8, 2) := by decide +kernel
theorem dX2_stepsFrom_33 : decode cX2_stepsFrom 33 = .ok (.imul, 1) := by decide +kernel
theorem dX2_stepsFrom_34 : decode cX2_stepsFrom 34 = .ok (.iload_n 2, 1) := by decide +kernel
theorem dX2_stepsFrom_35 : decode cX2_stepsFrom 35 = .ok (.iadd, 1) := by decide +kernel
theorem dX2_stepsFrom_36 : decode cX2_stepsFrom 36 = .ok (.iaload, 1) := by decide +kernel
theorem dX2_stepsFrom_37 : decode cX2_stepsFrom 37 = .ok (.ireturn, 1) := by decide +kernel
theorem dX2_spread_0 : decode cX2_spread 0 = .ok (.iconst 0, 1) := by decide +kernel
theorem dX2_spread_1 : decode cX2_spread 1 = .ok (.istore_n 3, 1) := by decide +kernel
theorem dX2_spread_2 : decode cX2_spread 2 = .ok (.iconst 0, 1) := by decide +kernel
theorem dX2_spread_3 : decode cX2_spread 3 = .ok (.istore 4, 2) := by decide +kernel
theorem dX2_spread_5 : decode cX2_spread 5 = .ok (.iload 4, 2) := by decide +kernel
theorem dX2_spread_7 : decode cX2_spread 7 = .ok (.aload_n 0, 1) := by decide +kernel
theorem dX2_spread_8 : decode cX2_spread 8 = .ok (.getfield 63, 3) := by decide +kernel
theorem dX2_spread_11 : decode cX2_spread 11 = .ok (.if_icmp .ge 28, 3) := by decide +kernel
theorem dX2_spread_14 : decode cX2_spread 14 = .ok (.iload_n 2, 1) := by decide +kernel
theorem dX2_spread_15 : decode cX2_spread 15 = .ok (.iload 4, 2) := by decide +kernel
theorem dX2_spread_17 : decode cX2_spread 17 = .ok (.invokestatic 123, 3) := by decide +kernel
theorem dX2_spread_20 : decode cX2_spread 20 = .ok (.ifCond .eq 13, 3) := by decide +kernel
theorem dX2_spread_23 : decode cX2_spread 23 = .ok (.iload_n 3, 1) := by decide +kernel
theorem dX2_spread_24 : decode cX2_spread 24 = .ok (.aload_n 0, 1) := by decide +kernel
theorem dX2_spread_25 : decode cX2_spread 25 = .ok (.iload_n 1, 1) := by decide +kernel
theorem dX2_spread_26 : decode cX2_spread 26 = .ok (.iload 4, 2) := by decide +kernel
theorem dX2_spread_28 : decode cX2_spread 28 = .ok (.invokevirtual 101, 3) := by decide +kernel
theorem dX2_spread_31 : decode cX2_spread 31 = .ok (.ior, 1) := by decide +kernel
theorem dX2_spread_32 : decode cX2_spread 32 = .ok (.istore_n 3, 1) := by decide +kernel
theorem dX2_spread_33 : decode cX2_spread 33 = .ok (.iinc 4 1, 3) := by decide +kernel
theorem dX2_spread_36 : decode cX2_spread 36 = .ok (.goto (-31), 3) := by decide +kernel
theorem dX2_spread_39 : decode cX2_spread 39 = .ok (.iload_n 3, 1) := by decide +kernel
theorem dX2_spread_40 : decode cX2_spread 40 = .ok (.ireturn, 1) := by decide +kernel
theorem dX2_distance_0 : decode cX2_distance 0 = .ok (.iconst 1, 1) := by decide +kernel
theorem dX2_distance_1 : decode cX2_distance 1 = .ok (.iload_n 2, 1) := by decide +kernel
theorem dX2_distance_2 : decode cX2_distance 2 = .ok (.ishl, 1) := by decide +kernel
theorem dX2_distance_3 : decode cX2_distance 3 = .ok (.istore 4, 2) := by decide +kernel
theorem dX2_distance_5 : decode cX2_distance 5 = .ok (.iconst 0, 1) := by decide +kernel
theorem dX2_distance_6 : decode cX2_distance 6 = .ok (.istore 5, 2) := by decide +kernel
theorem dX2_distance_8 : decode cX2_distance 8 = .ok (.iload 5, 2) := by decide +kernel
theorem dX2_distance_10 : decode cX2_distance 10 = .ok (.aload_n 0, 1) := by decide +kernel
theorem dX2_distance_11 : decode cX2_distance 11 = .ok (.getfield 63, 3) := by decide +kernel
theorem dX2_distance_14 : decode cX2_distance 14 = .ok (.if_icmp .ge 30, 3) := by decide +kernel
theorem dX2_distance_17 : decode cX2_distance 17 = .ok (.iload 4, 2) := by decide +kernel
theorem dX2_distance_19 : decode cX2_distance 19 = .ok (.iload_n 3, 1) := by decide +kernel
theorem dX2_distance_20 : decode cX2_distance 20 = .ok (.invokestatic 123, 3) := by decide +kernel
theorem dX2_distance_23 : decode cX2_distance 23 = .ok (.ifCond .eq 6, 3) := by decide +kernel
theorem dX2_distance_26 : decode cX2_distance 26 = .ok (.iload 5, 2) := by decide +kernel
theorem dX2_distance_28 : decode cX2_distance 28 = .ok (.ireturn, 1) := by decide +kernel
theorem dX2_distance_29 : decode cX2_distance 29 = .ok (.aload_n 0, 1) := by decide +kernel
theorem dX2_distance_30 : decode cX2_distance 30 = .ok (.iload_n 1, 1) := by decide +kernel
theorem dX2_distance_31 : decode cX2_distance 31 = .ok (.iload 4, 2) := by decide +kernel
theorem dX2_distance_33 : decode cX2_distance 33 = .ok (.invokevirtual 108, 3) := by decide +kernel
theorem dX2_distance_36 : decode cX2_distance 36 = .ok (.istore 4, 2) := by decide +kernel
theorem dX2_distance_38 : decode cX2_distance 38 = .ok (.iinc 5 1, 3) := by decide +kernel
theorem dX2_distance_41 : decode cX2_distance 41 = .ok (.goto (-33), 3) := by decide +kernel
theorem dX2_distance_44 : decode cX2_distance 44 = .ok (.iconst (-1), 1) := by decide +kernel
theorem dX2_distance_45 : decode cX2_distance 45 = .ok (.ireturn, 1) := by decide +kernel
theorem dX2_reachable_0 : decode cX2_reachable 0 = .ok (.iconst 1, 1) := by decide +kernel
theorem dX2_reachable_1 : decode cX2_reachable 1 = .ok (.iload_n 2, 1) := by decide +kernel
theorem dX2_reachable_2 : decode cX2_reachable 2 = .ok (.ishl, 1) := by decide +kernel
theorem dX2_reachable_3 : decode cX2_reachable 3 = .ok (.istore_n 3, 1) := by decide +kernel
theorem dX2_reachable_4 : decode cX2_reachable 4 = .ok (.iconst 1, 1) := by decide +kernel
theorem dX2_reachable_5 : decode cX2_reachable 5 = .ok (.istore 4, 2) := by decide +kernel
theorem dX2_reachable_7 : decode cX2_reachable 7 = .ok (.iload 4, 2) := by decide +kernel
theorem dX2_reachable_9 : decode cX2_reachable 9 = .ok (.aload_n 0, 1) := by decide +kernel
theorem dX2_reachable_10 : decode cX2_reachable 10 = .ok (.getfield 63, 3) := by decide +kernel
theorem dX2_reachable_13 : decode cX2_reachable 13 = .ok (.if_icmp .ge 16, 3) := by decide +kernel
theorem dX2_reachable_16 : decode cX2_reachable 16 = .ok (.aload_n 0, 1) := by decide +kernel
theorem dX2_reachable_17 : decode cX2_reachable 17 = .ok (.iload_n 1, 1) := by decide +kernel
theorem dX2_reachable_18 : decode cX2_reachable 18 = .ok (.iload_n 3, 1) := by decide +kernel
theorem dX2_reachable_19 : decode cX2_reachable 19 = .ok (.invokevirtual 108, 3) := by decide +kernel
theorem dX2_reachable_22 : decode cX2_reachable 22 = .ok (.istore_n 3, 1) := by decide +kernel
theorem dX2_reachable_23 : decode cX2_reachable 23 = .ok (.iinc 4 1, 3) := by decide +kernel
theorem dX2_reachable_26 : decode cX2_reachable 26 = .ok (.goto (-19), 3) := by decide +kernel
theorem dX2_reachable_29 : decode cX2_reachable 29 = .ok (.iload_n 3, 1) := by decide +kernel
theorem dX2_reachable_30 : decode cX2_reachable 30 = .ok (.ireturn, 1) := by decide +kernel
theorem dX2_isHere_0 : decode cX2_isHere 0 = .ok (.iload_n 1, 1) := by decide +kernel
theorem dX2_isHere_1 : decode cX2_isHere 1 = .ok (.ifCond .lt 27, 3) := by decide +kernel
theorem dX2_isHere_4 : decode cX2_isHere 4 = .ok (.iload_n 1, 1) := by decide +kernel
theorem dX2_isHere_5 : decode cX2_isHere 5 = .ok (.aload_n 0, 1) := by decide +kernel
theorem dX2_isHere_6 : decode cX2_isHere 6 = .ok (.getfield 35, 3) := by decide +kernel
theorem dX2_isHere_9 : decode cX2_isHere 9 = .ok (.if_icmp .ge 19, 3) := by decide +kernel
theorem dX2_isHere_12 : decode cX2_isHere 12 = .ok (.iload_n 2, 1) := by decide +kernel
theorem dX2_isHere_13 : decode cX2_isHere 13 = .ok (.ifCond .lt 15, 3) := by decide +kernel
theorem dX2_isHere_16 : decode cX2_isHere 16 = .ok (.iload_n 2, 1) := by decide +kernel
theorem dX2_isHere_17 : decode cX2_isHere 17 = .ok (.aload_n 0, 1) := by decide +kernel
theorem dX2_isHere_18 : decode cX2_isHere 18 = .ok (.getfield 67, 3) := by decide +kernel
theorem dX2_isHere_21 : decode cX2_isHere 21 = .ok (.if_icmp .gt 7, 3) := by decide +kernel
theorem dX2_isHere_24 : decode cX2_isHere 24 = .ok (.iconst 1, 1) := by decide +kernel
theorem dX2_isHere_25 : decode cX2_isHere 25 = .ok (.goto 4, 3) := by decide +kernel
theorem dX2_isHere_28 : decode cX2_isHere 28 = .ok (.iconst 0, 1) := by decide +kernel
theorem dX2_isHere_29 : decode cX2_isHere 29 = .ok (.ireturn, 1) := by decide +kernel
theorem dX2_goalOf_0 : decode cX2_goalOf 0 = .ok (.aload_n 0, 1) := by decide +kernel
theorem dX2_goalOf_1 : decode cX2_goalOf 1 = .ok (.iload_n 1, 1) := by decide +kernel
theorem dX2_goalOf_2 : decode cX2_goalOf 2 = .ok (.iload_n 2, 1) := by decide +kernel
theorem dX2_goalOf_3 : decode cX2_goalOf 3 = .ok (.invokevirtual 127, 3) := by decide +kernel
theorem dX2_goalOf_6 : decode cX2_goalOf 6 = .ok (.ifCond .eq 17, 3) := by decide +kernel
theorem dX2_goalOf_9 : decode cX2_goalOf 9 = .ok (.aload_n 0, 1) := by decide +kernel
theorem dX2_goalOf_10 : decode cX2_goalOf 10 = .ok (.getfield 15, 3) := by decide +kernel
theorem dX2_goalOf_13 : decode cX2_goalOf 13 = .ok (.iload_n 1, 1) := by decide +kernel
theorem dX2_goalOf_14 : decode cX2_goalOf 14 = .ok (.bipush 15, 2) := by decide +kernel
theorem dX2_goalOf_16 : decode cX2_goalOf 16 = .ok (.imul, 1) := by decide +kernel
theorem dX2_goalOf_17 : decode cX2_goalOf 17 = .ok (.iload_n 2, 1) := by decide +kernel
theorem dX2_goalOf_18 : decode cX2_goalOf 18 = .ok (.iadd, 1) := by decide +kernel
theorem dX2_goalOf_19 : decode cX2_goalOf 19 = .ok (.iaload, 1) := by decide +kernel
theorem dX2_goalOf_20 : decode cX2_goalOf 20 = .ok (.goto 4, 3) := by decide +kernel
theorem dX2_goalOf_23 : decode cX2_goalOf 23 = .ok (.iconst (-1), 1) := by decide +kernel
theorem dX2_goalOf_24 : decode cX2_goalOf 24 = .ok (.ireturn, 1) := by decide +kernel
theorem dX2_placeOf_0 : decode cX2_placeOf 0 = .ok (.aload_n 0, 1) := by decide +kernel
theorem dX2_placeOf_1 : decode cX2_placeOf 1 = .ok (.iload_n 1, 1) := by decide +kernel
theorem dX2_placeOf_2 : decode cX2_placeOf 2 = .ok (.iload_n 2, 1) := by decide +kernel
theorem dX2_placeOf_3 : decode cX2_placeOf 3 = .ok (.invokevirtual 127, 3) := by decide +kernel
theorem dX2_placeOf_6 : decode cX2_placeOf 6 = .ok (.ifCond .eq 17, 3) := by decide +kernel
theorem dX2_placeOf_9 : decode cX2_placeOf 9 = .ok (.aload_n 0, 1) := by decide +kernel
theorem dX2_placeOf_10 : decode cX2_placeOf 10 = .ok (.getfield 21, 3) := by decide +kernel
theorem dX2_placeOf_13 : decode cX2_placeOf 13 = .ok (.iload_n 1, 1) := by decide +kernel
theorem dX2_placeOf_14 : decode cX2_placeOf 14 = .ok (.bipush 15, 2) := by decide +kernel
theorem dX2_placeOf_16 : decode cX2_placeOf 16 = .ok (.imul, 1) := by decide +kernel
theorem dX2_placeOf_17 : decode cX2_placeOf 17 = .ok (.iload_n 2, 1) := by decide +kernel
theorem dX2_placeOf_18 : decode cX2_placeOf 18 = .ok (.iadd, 1) := by decide +kernel
theorem dX2_placeOf_19 : decode cX2_placeOf 19 = .ok (.iaload, 1) := by decide +kernel
theorem dX2_placeOf_20 : decode cX2_placeOf 20 = .ok (.goto 4, 3) := by decide +kernel
theorem dX2_placeOf_23 : decode cX2_placeOf 23 = .ok (.iconst (-1), 1) := by decide +kernel
theorem dX2_placeOf_24 : decode cX2_placeOf 24 = .ok (.ireturn, 1) := by decide +kernel
theorem dX2_companyOf_0 : decode cX2_companyOf 0 = .ok (.aload_n 0, 1) := by decide +kernel
theorem dX2_companyOf_1 : decode cX2_companyOf 1 = .ok (.iload_n 1, 1) := by decide +kernel
theorem dX2_companyOf_2 : decode cX2_companyOf 2 = .ok (.iload_n 2, 1) := by decide +kernel
theorem dX2_companyOf_3 : decode cX2_companyOf 3 = .ok (.invokevirtual 127, 3) := by decide +kernel
theorem dX2_companyOf_6 : decode cX2_companyOf 6 = .ok (.ifCond .eq 17, 3) := by decide +kernel
theorem dX2_companyOf_9 : decode cX2_companyOf 9 = .ok (.aload_n 0, 1) := by decide +kernel
theorem dX2_companyOf_10 : decode cX2_companyOf 10 = .ok (.getfield 24, 3) := by decide +kernel
theorem dX2_companyOf_13 : decode cX2_companyOf 13 = .ok (.iload_n 1, 1) := by decide +kernel
theorem dX2_companyOf_14 : decode cX2_companyOf 14 = .ok (.bipush 15, 2) := by decide +kernel
theorem dX2_companyOf_16 : decode cX2_companyOf 16 = .ok (.imul, 1) := by decide +kernel
theorem dX2_companyOf_17 : decode cX2_companyOf 17 = .ok (.iload_n 2, 1) := by decide +kernel
theorem dX2_companyOf_18 : decode cX2_companyOf 18 = .ok (.iadd, 1) := by decide +kernel
theorem dX2_companyOf_19 : decode cX2_companyOf 19 = .ok (.iaload, 1) := by decide +kernel
theorem dX2_companyOf_20 : decode cX2_companyOf 20 = .ok (.goto 4, 3) := by decide +kernel
theorem dX2_companyOf_23 : decode cX2_companyOf 23 = .ok (.iconst 0, 1) := by decide +kernel
theorem dX2_companyOf_24 : decode cX2_companyOf 24 = .ok (.ireturn, 1) := by decide +kernel
theorem dX2_ladiesIn_0 : decode cX2_ladiesIn 0 = .ok (.iconst 0, 1) := by decide +kernel
theorem dX2_ladiesIn_1 : decode cX2_ladiesIn 1 = .ok (.istore_n 3, 1) := by decide +kernel
theorem dX2_ladiesIn_2 : decode cX2_ladiesIn 2 = .ok (.iconst 0, 1) := by decide +kernel
theorem dX2_ladiesIn_3 : decode cX2_ladiesIn 3 = .ok (.istore 4, 2) := by decide +kernel
theorem dX2_ladiesIn_5 : decode cX2_ladiesIn 5 = .ok (.iload 4, 2) := by decide +kernel
theorem dX2_ladiesIn_7 : decode cX2_ladiesIn 7 = .ok (.aload_n 0, 1) := by decide +kernel
theorem dX2_ladiesIn_8 : decode cX2_ladiesIn 8 = .ok (.getfield 35, 3) := by decide +kernel
theorem dX2_ladiesIn_11 : decode cX2_ladiesIn 11 = .ok (.if_icmp .ge 27, 3) := by decide +kernel
theorem dX2_ladiesIn_14 : decode cX2_ladiesIn 14 = .ok (.aload_n 0, 1) := by decide +kernel
theorem dX2_ladiesIn_15 : decode cX2_ladiesIn 15 = .ok (.iload 4, 2) := by decide +kernel
theorem dX2_ladiesIn_17 : decode cX2_ladiesIn 17 = .ok (.iload_n 2, 1) := by decide +kernel
theorem dX2_ladiesIn_18 : decode cX2_ladiesIn 18 = .ok (.invokevirtual 111, 3) := by decide +kernel
theorem dX2_ladiesIn_21 : decode cX2_ladiesIn 21 = .ok (.iload_n 1, 1) := by decide +kernel
theorem dX2_ladiesIn_22 : decode cX2_ladiesIn 22 = .ok (.if_icmp .ne 10, 3) := by decide +kernel
theorem dX2_ladiesIn_25 : decode cX2_ladiesIn 25 = .ok (.iload_n 3, 1) := by decide +kernel
theorem dX2_ladiesIn_26 : decode cX2_ladiesIn 26 = .ok (.iconst 1, 1) := by decide +kernel
theorem dX2_ladiesIn_27 : decode cX2_ladiesIn 27 = .ok (.iload 4, 2) := by decide +kernel
theorem dX2_ladiesIn_29 : decode cX2_ladiesIn 29 = .ok (.ishl, 1) := by decide +kernel
theorem dX2_ladiesIn_30 : decode cX2_ladiesIn 30 = .ok (.ior, 1) := by decide +kernel
theorem dX2_ladiesIn_31 : decode cX2_ladiesIn 31 = .ok (.istore_n 3, 1) := by decide +kernel
theorem dX2_ladiesIn_32 : decode cX2_ladiesIn 32 = .ok (.iinc 4 1, 3) := by decide +kernel
theorem dX2_ladiesIn_35 : decode cX2_ladiesIn 35 = .ok (.goto (-30), 3) := by decide +kernel
theorem dX2_ladiesIn_38 : decode cX2_ladiesIn 38 = .ok (.iload_n 3, 1) := by decide +kernel
theorem dX2_ladiesIn_39 : decode cX2_ladiesIn 39 = .ok (.ireturn, 1) := by decide +kernel
theorem dX2_dancesIn_0 : decode cX2_dancesIn 0 = .ok (.iconst 0, 1) := by decide +kernel
theorem dX2_dancesIn_1 : decode cX2_dancesIn 1 = .ok (.istore_n 3, 1) := by decide +kernel
theorem dX2_dancesIn_2 : decode cX2_dancesIn 2 = .ok (.iconst 0, 1) := by decide +kernel
theorem dX2_dancesIn_3 : decode cX2_dancesIn 3 = .ok (.istore 4, 2) := by decide +kernel
theorem dX2_dancesIn_5 : decode cX2_dancesIn 5 = .ok (.iload 4, 2) := by decide +kernel
theorem dX2_dancesIn_7 : decode cX2_dancesIn 7 = .ok (.aload_n 0, 1) := by decide +kernel
theorem dX2_dancesIn_8 : decode cX2_dancesIn 8 = .ok (.getfield 67, 3) := by decide +kernel
theorem dX2_dancesIn_11 : decode cX2_dancesIn 11 = .ok (.if_icmp .gt 23, 3) := by decide +kernel
theorem dX2_dancesIn_14 : decode cX2_dancesIn 14 = .ok (.aload_n 0, 1) := by decide +kernel
theorem dX2_dancesIn_15 : decode cX2_dancesIn 15 = .ok (.iload_n 1, 1) := by decide +kernel
theorem dX2_dancesIn_16 : decode cX2_dancesIn 16 = .ok (.iload 4, 2) := by decide +kernel
theorem dX2_dancesIn_18 : decode cX2_dancesIn 18 = .ok (.invokevirtual 111, 3) := by decide +kernel
theorem dX2_dancesIn_21 : decode cX2_dancesIn 21 = .ok (.iload_n 2, 1) := by decide +kernel
theorem dX2_dancesIn_22 : decode cX2_dancesIn 22 = .ok (.if_icmp .ne 6, 3) := by decide +kernel
theorem dX2_dancesIn_25 : decode cX2_dancesIn 25 = .ok (.iinc 3 1, 3) := by decide +kernel
theorem dX2_dancesIn_28 : decode cX2_dancesIn 28 = .ok (.iinc 4 1, 3) := by decide +kernel
theorem dX2_dancesIn_31 : decode cX2_dancesIn 31 = .ok (.goto (-26), 3) := by decide +kernel
theorem dX2_dancesIn_34 : decode cX2_dancesIn 34 = .ok (.iload_n 3, 1) := by decide +kernel
theorem dX2_dancesIn_35 : decode cX2_dancesIn 35 = .ok (.ireturn, 1) := by decide +kernel
theorem dX2_stepsOf_0 : decode cX2_stepsOf 0 = .ok (.iconst 0, 1) := by decide +kernel
theorem dX2_stepsOf_1 : decode cX2_stepsOf 1 = .ok (.istore_n 2, 1) := by decide +kernel
theorem dX2_stepsOf_2 : decode cX2_stepsOf 2 = .ok (.iconst 1, 1) := by decide +kernel
theorem dX2_stepsOf_3 : decode cX2_stepsOf 3 = .ok (.istore_n 3, 1) := by decide +kernel
theorem dX2_stepsOf_4 : decode cX2_stepsOf 4 = .ok (.iload_n 3, 1) := by decide +kernel
theorem dX2_stepsOf_5 : decode cX2_stepsOf 5 = .ok (.aload_n 0, 1) := by decide +kernel
theorem dX2_stepsOf_6 : decode cX2_stepsOf 6 = .ok (.getfield 67, 3) := by decide +kernel
theorem dX2_stepsOf_9 : decode cX2_stepsOf 9 = .ok (.if_icmp .gt 29, 3) := by decide +kernel
theorem dX2_stepsOf_12 : decode cX2_stepsOf 12 = .ok (.aload_n 0, 1) := by decide +kernel
theorem dX2_stepsOf_13 : decode cX2_stepsOf 13 = .ok (.iload_n 1, 1) := by decide +kernel
theorem dX2_stepsOf_14 : decode cX2_stepsOf 14 = .ok (.iload_n 3, 1) := by decide +kernel
theorem dX2_stepsOf_15 : decode cX2_stepsOf 15 = .ok (.invokevirtual 111, 3) := by decide +kernel
theorem dX2_stepsOf_18 : decode cX2_stepsOf 18 = .ok (.aload_n 0, 1) := by decide +kernel
theorem dX2_stepsOf_19 : decode cX2_stepsOf 19 = .ok (.iload_n 1, 1) := by decide +kernel
theorem dX2_stepsOf_20 : decode cX2_stepsOf 20 = .ok (.iload_n 3, 1) := by decide +kernel
theorem dX2_stepsOf_21 : decode cX2_stepsOf 21 = .ok (.iconst 1, 1) := by decide +kernel
theorem dX2_stepsOf_22 : decode cX2_stepsOf 22 = .ok (.isub, 1) := by decide +kernel
theorem dX2_stepsOf_23 : decode cX2_stepsOf 23 = .ok (.invokevirtual 111, 3) := by decide +kernel
theorem dX2_stepsOf_26 : decode cX2_stepsOf 26 = .ok (.if_icmp .eq 6, 3) := by decide +kernel
theorem dX2_stepsOf_29 : decode cX2_stepsOf 29 = .ok (.iinc 2 1, 3) := by decide +kernel
theorem dX2_stepsOf_32 : decode cX2_stepsOf 32 = .ok (.iinc 3 1, 3) := by decide +kernel
theorem dX2_stepsOf_35 : decode cX2_stepsOf 35 = .ok (.goto (-31), 3) := by decide +kernel
theorem dX2_stepsOf_38 : decode cX2_stepsOf 38 = .ok (.iload_n 2, 1) := by decide +kernel
theorem dX2_stepsOf_39 : decode cX2_stepsOf 39 = .ok (.ireturn, 1) := by decide +kernel
theorem dX2_meetingsOf_0 : decode cX2_meetingsOf 0 = .ok (.iconst 0, 1) := by decide +kernel
theorem dX2_meetingsOf_1 : decode cX2_meetingsOf 1 = .ok (.istore_n 3, 1) := by decide +kernel
theorem dX2_meetingsOf_2 : decode cX2_meetingsOf 2 = .ok (.iconst 0, 1) := by decide +kernel
theorem dX2_meetingsOf_3 : decode cX2_meetingsOf 3 = .ok (.istore 4, 2) := by decide +kernel
theorem dX2_meetingsOf_5 : decode cX2_meetingsOf 5 = .ok (.iload 4, 2) := by decide +kernel
theorem dX2_meetingsOf_7 : decode cX2_meetingsOf 7 = .ok (.aload_n 0, 1) := by decide +kernel
theorem dX2_meetingsOf_8 : decode cX2_meetingsOf 8 = .ok (.getfield 67, 3) := by decide +kernel
theorem dX2_meetingsOf_11 : decode cX2_meetingsOf 11 = .ok (.if_icmp .gt 26, 3) := by decide +kernel
theorem dX2_meetingsOf_14 : decode cX2_meetingsOf 14 = .ok (.aload_n 0, 1) := by decide +kernel
theorem dX2_meetingsOf_15 : decode cX2_meetingsOf 15 = .ok (.iload_n 1, 1) := by decide +kernel
theorem dX2_meetingsOf_16 : decode cX2_meetingsOf 16 = .ok (.iload 4, 2) := by decide +kernel
theorem dX2_meetingsOf_18 : decode cX2_meetingsOf 18 = .ok (.invokevirtual 130, 3) := by decide +kernel
theorem dX2_meetingsOf_21 : decode cX2_meetingsOf 21 = .ok (.iload_n 2, 1) := by decide +kernel
theorem dX2_meetingsOf_22 : decode cX2_meetingsOf 22 = .ok (.invokestatic 123, 3) := by decide +kernel
theorem dX2_meetingsOf_25 : decode cX2_meetingsOf 25 = .ok (.ifCond .eq 6, 3) := by decide +kernel
theorem dX2_meetingsOf_28 : decode cX2_meetingsOf 28 = .ok (.iinc 3 1, 3) := by decide +kernel
theorem dX2_meetingsOf_31 : decode cX2_meetingsOf 31 = .ok (.iinc 4 1, 3) := by decide +kernel
theorem dX2_meetingsOf_34 : decode cX2_meetingsOf 34 = .ok (.goto (-29), 3) := by decide +kernel
theorem dX2_meetingsOf_37 : decode cX2_meetingsOf 37 = .ok (.iload_n 3, 1) := by decide +kernel
theorem dX2_meetingsOf_38 : decode cX2_meetingsOf 38 = .ok (.ireturn, 1) := by decide +kernel
theorem dX2_friendsOf_0 : decode cX2_friendsOf 0 = .ok (.iconst 0, 1) := by decide +kernel
theorem dX2_friendsOf_1 : decode cX2_friendsOf 1 = .ok (.istore_n 2, 1) := by decide +kernel
theorem dX2_friendsOf_2 : decode cX2_friendsOf 2 = .ok (.iconst 0, 1) := by decide +kernel
theorem dX2_friendsOf_3 : decode cX2_friendsOf 3 = .ok (.istore_n 3, 1) := by decide +kernel
theorem dX2_friendsOf_4 : decode cX2_friendsOf 4 = .ok (.iload_n 3, 1) := by decide +kernel
theorem dX2_friendsOf_5 : decode cX2_friendsOf 5 = .ok (.aload_n 0, 1) := by decide +kernel
theorem dX2_friendsOf_6 : decode cX2_friendsOf 6 = .ok (.getfield 67, 3) := by decide +kernel
theorem dX2_friendsOf_9 : decode cX2_friendsOf 9 = .ok (.if_icmp .gt 18, 3) := by decide +kernel
theorem dX2_friendsOf_12 : decode cX2_friendsOf 12 = .ok (.iload_n 2, 1) := by decide +kernel
theorem dX2_friendsOf_13 : decode cX2_friendsOf 13 = .ok (.aload_n 0, 1) := by decide +kernel
theorem dX2_friendsOf_14 : decode cX2_friendsOf 14 = .ok (.iload_n 1, 1) := by decide +kernel
theorem dX2_friendsOf_15 : decode cX2_friendsOf 15 = .ok (.iload_n 3, 1) := by decide +kernel
theorem dX2_friendsOf_16 : decode cX2_friendsOf 16 = .ok (.invokevirtual 130, 3) := by decide +kernel
theorem dX2_friendsOf_19 : decode cX2_friendsOf 19 = .ok (.ior, 1) := by decide +kernel
theorem dX2_friendsOf_20 : decode cX2_friendsOf 20 = .ok (.istore_n 2, 1) := by decide +kernel
theorem dX2_friendsOf_21 : decode cX2_friendsOf 21 = .ok (.iinc 3 1, 3) := by decide +kernel
theorem dX2_friendsOf_24 : decode cX2_friendsOf 24 = .ok (.goto (-20), 3) := by decide +kernel
theorem dX2_friendsOf_27 : decode cX2_friendsOf 27 = .ok (.iload_n 2, 1) := by decide +kernel
theorem dX2_friendsOf_28 : decode cX2_friendsOf 28 = .ok (.iconst 1, 1) := by decide +kernel
theorem dX2_friendsOf_29 : decode cX2_friendsOf 29 = .ok (.iload_n 1, 1) := by decide +kernel
theorem dX2_friendsOf_30 : decode cX2_friendsOf 30 = .ok (.ishl, 1) := by decide +kernel
theorem dX2_friendsOf_31 : decode cX2_friendsOf 31 = .ok (.iconst (-1), 1) := by decide +kernel
theorem dX2_friendsOf_32 : decode cX2_friendsOf 32 = .ok (.ixor, 1) := by decide +kernel
theorem dX2_friendsOf_33 : decode cX2_friendsOf 33 = .ok (.iand, 1) := by decide +kernel
theorem dX2_friendsOf_34 : decode cX2_friendsOf 34 = .ok (.ireturn, 1) := by decide +kernel
theorem dX3_tally_0 : decode cX3_tally 0 = .ok (.aload_n 0, 1) := by decide +kernel
theorem dX3_tally_1 : decode cX3_tally 1 = .ok (.aload_n 1, 1) := by decide +kernel
theorem dX3_tally_2 : decode cX3_tally 2 = .ok (.getfield 15, 3) := by decide +kernel
theorem dX3_tally_5 : decode cX3_tally 5 = .ok (.getfield 21, 3) := by decide +kernel
theorem dX3_tally_8 : decode cX3_tally 8 = .ok (.putfield 27, 3) := by decide +kernel
theorem dX3_tally_11 : decode cX3_tally 11 = .ok (.aload_n 0, 1) := by decide +kernel
theorem dX3_tally_12 : decode cX3_tally 12 = .ok (.iconst 0, 1) := by decide +kernel
theorem dX3_tally_13 : decode cX3_tally 13 = .ok (.putfield 29, 3) := by decide +kernel
theorem dX3_tally_16 : decode cX3_tally 16 = .ok (.iconst 0, 1) := by decide +kernel
theorem dX3_tally_17 : decode cX3_tally 17 = .ok (.istore_n 2, 1) := by decide +kernel
theorem dX3_tally_18 : decode cX3_tally 18 = .ok (.iload_n 2, 1) := by decide +kernel
theorem dX3_tally_19 : decode cX3_tally 19 = .ok (.aload_n 0, 1) := by decide +kernel
theorem dX3_tally_20 : decode cX3_tally 20 = .ok (.getfield 27, 3) := by decide +kernel
theorem dX3_tally_23 : decode cX3_tally 23 = .ok (.if_icmp .ge 35, 3) := by decide +kernel
theorem dX3_tally_26 : decode cX3_tally 26 = .ok (.aload_n 0, 1) := by decide +kernel
theorem dX3_tally_27 : decode cX3_tally 27 = .ok (.getfield 9, 3) := by decide +kernel
theorem dX3_tally_30 : decode cX3_tally 30 = .ok (.iload_n 2, 1) := by decide +kernel
theorem dX3_tally_31 : decode cX3_tally 31 = .ok (.aload_n 1, 1) := by decide +kernel
theorem dX3_tally_32 : decode cX3_tally 32 = .ok (.iload_n 2, 1) := by decide +kernel
theorem dX3_tally_33 : decode cX3_tally 33 = .ok (.invokevirtual 32, 3) := by decide +kernel
theorem dX3_tally_36 : decode cX3_tally 36 = .ok (.iastore, 1) := by decide +kernel
theorem dX3_tally_37 : decode cX3_tally 37 = .ok (.aload_n 0, 1) := by decide +kernel
theorem dX3_tally_38 : decode cX3_tally 38 = .ok (.dup, 1) := by decide +kernel
theorem dX3_tally_39 : decode cX3_tally 39 = .ok (.getfield 29, 3) := by decide +kernel
theorem dX3_tally_42 : decode cX3_tally 42 = .ok (.aload_n 0, 1) := by decide +kernel
theorem dX3_tally_43 : decode cX3_tally 43 = .ok (.getfield 9, 3) := by decide +kernel
theorem dX3_tally_46 : decode cX3_tally 46 = .ok (.iload_n 2, 1) := by decide +kernel
theorem dX3_tally_47 : decode cX3_tally 47 = .ok (.iaload, 1) := by decide +kernel
theorem dX3_tally_48 : decode cX3_tally 48 = .ok (.iadd, 1) := by decide +kernel
theorem dX3_tally_49 : decode cX3_tally 49 = .ok (.putfield 29, 3) := by decide +kernel
theorem dX3_tally_52 : decode cX3_tally 52 = .ok (.iinc 2 1, 3) := by decide +kernel
theorem dX3_tally_55 : decode cX3_tally 55 = .ok (.goto (-37), 3) := by decide +kernel
theorem dX3_tally_58 : decode cX3_tally 58 = .ok (.return_, 1) := by decide +kernel
theorem dX3_seatsOf_0 : decode cX3_seatsOf 0 = .ok (.iconst 0, 1) := by decide +kernel
theorem dX3_seatsOf_1 : decode cX3_seatsOf 1 = .ok (.istore_n 2, 1) := by decide +kernel
theorem dX3_seatsOf_2 : decode cX3_seatsOf 2 = .ok (.iconst 0, 1) := by decide +kernel
theorem dX3_seatsOf_3 : decode cX3_seatsOf 3 = .ok (.istore_n 3, 1) := by decide +kernel
theorem dX3_seatsOf_4 : decode cX3_seatsOf 4 = .ok (.iload_n 3, 1) := by decide +kernel
theorem dX3_seatsOf_5 : decode cX3_seatsOf 5 = .ok (.aload_n 0, 1) := by decide +kernel
theorem dX3_seatsOf_6 : decode cX3_seatsOf 6 = .ok (.getfield 27, 3) := by decide +kernel
theorem dX3_seatsOf_9 : decode cX3_seatsOf 9 = .ok (.if_icmp .ge 26, 3) := by decide +kernel
theorem dX3_seatsOf_12 : decode cX3_seatsOf 12 = .ok (.iload_n 1, 1) := by decide +kernel
theorem dX3_seatsOf_13 : decode cX3_seatsOf 13 = .ok (.iload_n 3, 1) := by decide +kernel
theorem dX3_seatsOf_14 : decode cX3_seatsOf 14 = .ok (.invokestatic 35, 3) := by decide +kernel
theorem dX3_seatsOf_17 : decode cX3_seatsOf 17 = .ok (.ifCond .eq 12, 3) := by decide +kernel
theorem dX3_seatsOf_20 : decode cX3_seatsOf 20 = .ok (.iload_n 2, 1) := by decide +kernel
theorem dX3_seatsOf_21 : decode cX3_seatsOf 21 = .ok (.aload_n 0, 1) := by decide +kernel
theorem dX3_seatsOf_22 : decode cX3_seatsOf 22 = .ok (.getfield 9, 3) := by decide +kernel
theorem dX3_seatsOf_25 : decode cX3_seatsOf 25 = .ok (.iload_n 3, 1) := by decide +kernel
theorem dX3_seatsOf_26 : decode cX3_seatsOf 26 = .ok (.iaload, 1) := by decide +kernel
theorem dX3_seatsOf_27 : decode cX3_seatsOf 27 = .ok (.iadd, 1) := by decide +kernel
theorem dX3_seatsOf_28 : decode cX3_seatsOf 28 = .ok (.istore_n 2, 1) := by decide +kernel
theorem dX3_seatsOf_29 : decode cX3_seatsOf 29 = .ok (.iinc 3 1, 3) := by decide +kernel
theorem dX3_seatsOf_32 : decode cX3_seatsOf 32 = .ok (.goto (-28), 3) := by decide +kernel
theorem dX3_seatsOf_35 : decode cX3_seatsOf 35 = .ok (.iload_n 2, 1) := by decide +kernel
theorem dX3_seatsOf_36 : decode cX3_seatsOf 36 = .ok (.ireturn, 1) := by decide +kernel
theorem dX3_isMoreThanHalf_0 : decode cX3_isMoreThanHalf 0 = .ok (.iconst 2, 1) := by decide +kernel
theorem dX3_isMoreThanHalf_1 : decode cX3_isMoreThanHalf 1 = .ok (.iload_n 1, 1) := by decide +kernel
theorem dX3_isMoreThanHalf_2 : decode cX3_isMoreThanHalf 2 = .ok (.imul, 1) := by decide +kernel
theorem dX3_isMoreThanHalf_3 : decode cX3_isMoreThanHalf 3 = .ok (.aload_n 0, 1) := by decide +kernel
theorem dX3_isMoreThanHalf_4 : decode cX3_isMoreThanHalf 4 = .ok (.getfield 29, 3) := by decide +kernel
theorem dX3_isMoreThanHalf_7 : decode cX3_isMoreThanHalf 7 = .ok (.if_icmp .le 7, 3) := by decide +kernel
theorem dX3_isMoreThanHalf_10 : decode cX3_isMoreThanHalf 10 = .ok (.iconst 1, 1) := by decide +kernel
theorem dX3_isMoreThanHalf_11 : decode cX3_isMoreThanHalf 11 = .ok (.goto 4, 3) := by decide +kernel
theorem dX3_isMoreThanHalf_14 : decode cX3_isMoreThanHalf 14 = .ok (.iconst 0, 1) := by decide +kernel
theorem dX3_isMoreThanHalf_15 : decode cX3_isMoreThanHalf 15 = .ok (.ireturn, 1) := by decide +kernel
theorem dX3_isMajority_0 : decode cX3_isMajority 0 = .ok (.aload_n 0, 1) := by decide +kernel
theorem dX3_isMajority_1 : decode cX3_isMajority 1 = .ok (.aload_n 0, 1) := by decide +kernel
theorem dX3_isMajority_2 : decode cX3_isMajority 2 = .ok (.iload_n 1, 1) := by decide +kernel
theorem dX3_isMajority_3 : decode cX3_isMajority 3 = .ok (.invokevirtual 39, 3) := by decide +kernel
theorem dX3_isMajority_6 : decode cX3_isMajority 6 = .ok (.invokevirtual 42, 3) := by decide +kernel
theorem dX3_isMajority_9 : decode cX3_isMajority 9 = .ok (.ireturn, 1) := by decide +kernel
theorem dX3_isLeastMajority_0 : decode cX3_isLeastMajority 0 = .ok (.aload_n 0, 1) := by decide +kernel
theorem dX3_isLeastMajority_1 : decode cX3_isLeastMajority 1 = .ok (.iload_n 1, 1) := by decide +kernel
theorem dX3_isLeastMajority_2 : decode cX3_isLeastMajority 2 = .ok (.invokevirtual 46, 3) := by decide +kernel
theorem dX3_isLeastMajority_5 : decode cX3_isLeastMajority 5 = .ok (.ifCond .ne 5, 3) := by decide +kernel
theorem dX3_isLeastMajority_8 : decode cX3_isLeastMajority 8 = .ok (.iconst 0, 1) := by decide +kernel
theorem dX3_isLeastMajority_9 : decode cX3_isLeastMajority 9 = .ok (.ireturn, 1) := by decide +kernel
theorem dX3_isLeastMajority_10 : decode cX3_isLeastMajority 10 = .ok (.iconst 0, 1) := by decide +kernel
theorem dX3_isLeastMajority_11 : decode cX3_isLeastMajority 11 = .ok (.istore_n 2, 1) := by decide +kernel
theorem dX3_isLeastMajority_12 : decode cX3_isLeastMajority 12 = .ok (.iload_n 2, 1) := by decide +kernel
theorem dX3_isLeastMajority_13 : decode cX3_isLeastMajority 13 = .ok (.aload_n 0, 1) := by decide +kernel
theorem dX3_isLeastMajority_14 : decode cX3_isLeastMajority 14 = .ok (.getfield 27, 3) := by decide +kernel
theorem dX3_isLeastMajority_17 : decode cX3_isLeastMajority 17 = .ok (.if_icmp .ge 33, 3) := by decide +kernel
theorem dX3_isLeastMajority_20 : decode cX3_isLeastMajority 20 = .ok (.iload_n 1, 1) := by decide +kernel
theorem dX3_isLeastMajority_21 : decode cX3_isLeastMajority 21 = .ok (.iload_n 2, 1) := by decide +kernel
theorem dX3_isLeastMajority_22 : decode cX3_isLeastMajority 22 = .ok (.invokestatic 35, 3) := by decide +kernel
theorem dX3_isLeastMajority_25 : decode cX3_isLeastMajority 25 = .ok (.ifCond .eq 19, 3) := by decide +kernel
theorem dX3_isLeastMajority_28 : decode cX3_isLeastMajority 28 = .ok (.aload_n 0, 1) := by decide +kernel
theorem dX3_isLeastMajority_29 : decode cX3_isLeastMajority 29 = .ok (.iload_n 1, 1) := by decide +kernel
theorem dX3_isLeastMajority_30 : decode cX3_isLeastMajority 30 = .ok (.iconst 1, 1) := by decide +kernel
theorem dX3_isLeastMajority_31 : decode cX3_isLeastMajority 31 = .ok (.iload_n 2, 1) := by decide +kernel
theorem dX3_isLeastMajority_32 : decode cX3_isLeastMajority 32 = .ok (.ishl, 1) := by decide +kernel
theorem dX3_isLeastMajority_33 : decode cX3_isLeastMajority 33 = .ok (.iconst (-1), 1) := by decide +kernel
theorem dX3_isLeastMajority_34 : decode cX3_isLeastMajority 34 = .ok (.ixor, 1) := by decide +kernel
theorem dX3_isLeastMajority_35 : decode cX3_isLeastMajority 35 = .ok (.iand, 1) := by decide +kernel
theorem dX3_isLeastMajority_36 : decode cX3_isLeastMajority 36 = .ok (.invokevirtual 46, 3) := by decide +kernel
theorem dX3_isLeastMajority_39 : decode cX3_isLeastMajority 39 = .ok (.ifCond .eq 5, 3) := by decide +kernel
theorem dX3_isLeastMajority_42 : decode cX3_isLeastMajority 42 = .ok (.iconst 0, 1) := by decide +kernel
theorem dX3_isLeastMajority_43 : decode cX3_isLeastMajority 43 = .ok (.ireturn, 1) := by decide +kernel
theorem dX3_isLeastMajority_44 : decode cX3_isLeastMajority 44 = .ok (.iinc 2 1, 3) := by decide +kernel
theorem dX3_isLeastMajority_47 : decode cX3_isLeastMajority 47 = .ok (.goto (-35), 3) := by decide +kernel
theorem dX3_isLeastMajority_50 : decode cX3_isLeastMajority 50 = .ok (.iconst 1, 1) := by decide +kernel
theorem dX3_isLeastMajority_51 : decode cX3_isLeastMajority 51 = .ok (.ireturn, 1) := by decide +kernel
theorem dX3_powerOf_0 : decode cX3_powerOf 0 = .ok (.iconst 0, 1) := by decide +kernel
theorem dX3_powerOf_1 : decode cX3_powerOf 1 = .ok (.istore_n 2, 1) := by decide +kernel
theorem dX3_powerOf_2 : decode cX3_powerOf 2 = .ok (.iconst 0, 1) := by decide +kernel
theorem dX3_powerOf_3 : decode cX3_powerOf 3 = .ok (.istore_n 3, 1) := by decide +kernel
theorem dX3_powerOf_4 : decode cX3_powerOf 4 = .ok (.iload_n 3, 1) := by decide +kernel
theorem dX3_powerOf_5 : decode cX3_powerOf 5 = .ok (.iconst 1, 1) := by decide +kernel
theorem dX3_powerOf_6 : decode cX3_powerOf 6 = .ok (.aload_n 0, 1) := by decide +kernel
theorem dX3_powerOf_7 : decode cX3_powerOf 7 = .ok (.getfield 27, 3) := by decide +kernel
theorem dX3_powerOf_10 : decode cX3_powerOf 10 = .ok (.ishl, 1) := by decide +kernel
theorem dX3_powerOf_11 : decode cX3_powerOf 11 = .ok (.if_icmp .ge 42, 3) := by decide +kernel
theorem dX3_powerOf_14 : decode cX3_powerOf 14 = .ok (.iload_n 3, 1) := by decide +kernel
theorem dX3_powerOf_15 : decode cX3_powerOf 15 = .ok (.iload_n 1, 1) := by decide +kernel
theorem dX3_powerOf_16 : decode cX3_powerOf 16 = .ok (.invokestatic 35, 3) := by decide +kernel
theorem dX3_powerOf_19 : decode cX3_powerOf 19 = .ok (.ifCond .eq 28, 3) := by decide +kernel
theorem dX3_powerOf_22 : decode cX3_powerOf 22 = .ok (.aload_n 0, 1) := by decide +kernel
theorem dX3_powerOf_23 : decode cX3_powerOf 23 = .ok (.iload_n 3, 1) := by decide +kernel
theorem dX3_powerOf_24 : decode cX3_powerOf 24 = .ok (.invokevirtual 46, 3) := by decide +kernel
theorem dX3_powerOf_27 : decode cX3_powerOf 27 = .ok (.ifCond .eq 20, 3) := by decide +kernel
theorem dX3_powerOf_30 : decode cX3_powerOf 30 = .ok (.aload_n 0, 1) := by decide +kernel
theorem dX3_powerOf_31 : decode cX3_powerOf 31 = .ok (.iload_n 3, 1) := by decide +kernel
theorem dX3_powerOf_32 : decode cX3_powerOf 32 = .ok (.iconst 1, 1) := by decide +kernel
theorem dX3_powerOf_33 : decode cX3_powerOf 33 = .ok (.iload_n 1, 1) := by decide +kernel
theorem dX3_powerOf_34 : decode cX3_powerOf 34 = .ok (.ishl, 1) := by decide +kernel
theorem dX3_powerOf_35 : decode cX3_powerOf 35 = .ok (.iconst (-1), 1) := by decide +kernel
theorem dX3_powerOf_36 : decode cX3_powerOf 36 = .ok (.ixor, 1) := by decide +kernel
theorem dX3_powerOf_37 : decode cX3_powerOf 37 = .ok (.iand, 1) := by decide +kernel
theorem dX3_powerOf_38 : decode cX3_powerOf 38 = .ok (.invokevirtual 46, 3) := by decide +kernel
theorem dX3_powerOf_41 : decode cX3_powerOf 41 = .ok (.ifCond .ne 6, 3) := by decide +kernel
theorem dX3_powerOf_44 : decode cX3_powerOf 44 = .ok (.iinc 2 1, 3) := by decide +kernel
theorem dX3_powerOf_47 : decode cX3_powerOf 47 = .ok (.iinc 3 1, 3) := by decide +kernel
theorem dX3_powerOf_50 : decode cX3_powerOf 50 = .ok (.goto (-46), 3) := by decide +kernel
theorem dX3_powerOf_53 : decode cX3_powerOf 53 = .ok (.iload_n 2, 1) := by decide +kernel
theorem dX3_powerOf_54 : decode cX3_powerOf 54 = .ok (.ireturn, 1) := by decide +kernel
theorem dX4_play_0 : decode cX4_play 0 = .ok (.aload_n 0, 1) := by decide +kernel
theorem dX4_play_1 : decode cX4_play 1 = .ok (.getfield 9, 3) := by decide +kernel
theorem dX4_play_4 : decode cX4_play 4 = .ok (.lconst 0, 1) := by decide +kernel
theorem dX4_play_5 : decode cX4_play 5 = .ok (.invokestatic 18, 3) := by decide +kernel
theorem dX4_play_8 : decode cX4_play 8 = .ok (.aload_n 0, 1) := by decide +kernel
theorem dX4_play_9 : decode cX4_play 9 = .ok (.getfield 9, 3) := by decide +kernel
theorem dX4_play_12 : decode cX4_play 12 = .ok (.iconst 1, 1) := by decide +kernel
theorem dX4_play_13 : decode cX4_play 13 = .ok (.iload_n 3, 1) := by decide +kernel
theorem dX4_play_14 : decode cX4_play 14 = .ok (.ishl, 1) := by decide +kernel
theorem dX4_play_15 : decode cX4_play 15 = .ok (.bipush 63, 2) := by decide +kernel
theorem dX4_play_17 : decode cX4_play 17 = .ok (.iand, 1) := by decide +kernel
theorem dX4_play_18 : decode cX4_play 18 = .ok (.lconst 1, 1) := by decide +kernel
theorem dX4_play_19 : decode cX4_play 19 = .ok (.lastore, 1) := by decide +kernel
theorem dX4_play_20 : decode cX4_play 20 = .ok (.aload_n 0, 1) := by decide +kernel
theorem dX4_play_21 : decode cX4_play 21 = .ok (.lconst 1, 1) := by decide +kernel
theorem dX4_play_22 : decode cX4_play 22 = .ok (.putfield 24, 3) := by decide +kernel
theorem dX4_play_25 : decode cX4_play 25 = .ok (.iconst 0, 1) := by decide +kernel
theorem dX4_play_26 : decode cX4_play 26 = .ok (.istore 6, 2) := by decide +kernel
theorem dX4_play_28 : decode cX4_play 28 = .ok (.iload 6, 2) := by decide +kernel
theorem dX4_play_30 : decode cX4_play 30 = .ok (.iload 4, 2) := by decide +kernel
theorem dX4_play_32 : decode cX4_play 32 = .ok (.if_icmp .gt 38, 3) := by decide +kernel
theorem dX4_play_35 : decode cX4_play 35 = .ok (.iload 6, 2) := by decide +kernel
theorem dX4_play_37 : decode cX4_play 37 = .ok (.bipush 8, 2) := by decide +kernel
theorem dX4_play_39 : decode cX4_play 39 = .ok (.if_icmp .gt 31, 3) := by decide +kernel
theorem dX4_play_42 : decode cX4_play 42 = .ok (.aload_n 0, 1) := by decide +kernel
theorem dX4_play_43 : decode cX4_play 43 = .ok (.aload_n 1, 1) := by decide +kernel
theorem dX4_play_44 : decode cX4_play 44 = .ok (.aload_n 2, 1) := by decide +kernel
theorem dX4_play_45 : decode cX4_play 45 = .ok (.iload 6, 2) := by decide +kernel
theorem dX4_play_47 : decode cX4_play 47 = .ok (.iload 5, 2) := by decide +kernel
theorem dX4_play_49 : decode cX4_play 49 = .ok (.invokevirtual 28, 3) := by decide +kernel
theorem dX4_play_52 : decode cX4_play 52 = .ok (.aload_n 0, 1) := by decide +kernel
theorem dX4_play_53 : decode cX4_play 53 = .ok (.dup, 1) := by decide +kernel
theorem dX4_play_54 : decode cX4_play 54 = .ok (.getfield 24, 3) := by decide +kernel
theorem dX4_play_57 : decode cX4_play 57 = .ok (.ldc2_w 32, 3) := by decide +kernel
theorem dX4_play_60 : decode cX4_play 60 = .ok (.lmul, 1) := by decide +kernel
theorem dX4_play_61 : decode cX4_play 61 = .ok (.putfield 24, 3) := by decide +kernel
theorem dX4_play_64 : decode cX4_play 64 = .ok (.iinc 6 1, 3) := by decide +kernel
theorem dX4_play_67 : decode cX4_play 67 = .ok (.goto (-39), 3) := by decide +kernel
theorem dX4_play_70 : decode cX4_play 70 = .ok (.return_, 1) := by decide +kernel
theorem dX4_playOne_0 : decode cX4_playOne 0 = .ok (.aload_n 0, 1) := by decide +kernel
theorem dX4_playOne_1 : decode cX4_playOne 1 = .ok (.getfield 15, 3) := by decide +kernel
theorem dX4_playOne_4 : decode cX4_playOne 4 = .ok (.lconst 0, 1) := by decide +kernel
theorem dX4_playOne_5 : decode cX4_playOne 5 = .ok (.invokestatic 18, 3) := by decide +kernel
theorem dX4_playOne_8 : decode cX4_playOne 8 = .ok (.iconst 0, 1) := by decide +kernel
theorem dX4_playOne_9 : decode cX4_playOne 9 = .ok (.istore 5, 2) := by decide +kernel
theorem dX4_playOne_11 : decode cX4_playOne 11 = .ok (.iload 5, 2) := by decide +kernel
theorem dX4_playOne_13 : decode cX4_playOne 13 = .ok (.bipush 64, 2) := by decide +kernel
theorem dX4_playOne_15 : decode cX4_playOne 15 = .ok (.if_icmp .ge 75, 3) := by decide +kernel
theorem dX4_playOne_18 : decode cX4_playOne 18 = .ok (.aload_n 0, 1) := by decide +kernel
theorem dX4_playOne_19 : decode cX4_playOne 19 = .ok (.getfield 9, 3) := by decide +kernel
theorem dX4_playOne_22 : decode cX4_playOne 22 = .ok (.iload 5, 2) := by decide +kernel
theorem dX4_playOne_24 : decode cX4_playOne 24 = .ok (.laload, 1) := by decide +kernel
theorem dX4_playOne_25 : decode cX4_playOne 25 = .ok (.lconst 0, 1) := by decide +kernel
theorem dX4_playOne_26 : decode cX4_playOne 26 = .ok (.lcmp, 1) := by decide +kernel
theorem dX4_playOne_27 : decode cX4_playOne 27 = .ok (.ifCond .eq 57, 3) := by decide +kernel
theorem dX4_playOne_30 : decode cX4_playOne 30 = .ok (.aload_n 0, 1) := by decide +kernel
theorem dX4_playOne_31 : decode cX4_playOne 31 = .ok (.getfield 15, 3) := by decide +kernel
theorem dX4_playOne_34 : decode cX4_playOne 34 = .ok (.iload 5, 2) := by decide +kernel
theorem dX4_playOne_36 : decode cX4_playOne 36 = .ok (.dup2, 1) := by decide +kernel
theorem dX4_playOne_37 : decode cX4_playOne 37 = .ok (.laload, 1) := by decide +kernel
theorem dX4_playOne_38 : decode cX4_playOne 38 = .ok (.aload_n 0, 1) := by decide +kernel
theorem dX4_playOne_39 : decode cX4_playOne 39 = .ok (.getfield 9, 3) := by decide +kernel
theorem dX4_playOne_42 : decode cX4_playOne 42 = .ok (.iload 5, 2) := by decide +kernel
theorem dX4_playOne_44 : decode cX4_playOne 44 = .ok (.laload, 1) := by decide +kernel
theorem dX4_playOne_45 : decode cX4_playOne 45 = .ok (.iload 4, 2) := by decide +kernel
theorem dX4_playOne_47 : decode cX4_playOne 47 = .ok (.i2l, 1) := by decide +kernel
theorem dX4_playOne_48 : decode cX4_playOne 48 = .ok (.lmul, 1) := by decide +kernel
theorem dX4_playOne_49 : decode cX4_playOne 49 = .ok (.ladd, 1) := by decide +kernel
theorem dX4_playOne_50 : decode cX4_playOne 50 = .ok (.lastore, 1) := by decide +kernel
theorem dX4_playOne_51 : decode cX4_playOne 51 = .ok (.aload_n 0, 1) := by decide +kernel
theorem dX4_playOne_52 : decode cX4_playOne 52 = .ok (.getfield 15, 3) := by decide +kernel
theorem dX4_playOne_55 : decode cX4_playOne 55 = .ok (.aload_n 2, 1) := by decide +kernel
theorem dX4_playOne_56 : decode cX4_playOne 56 = .ok (.aload_n 1, 1) := by decide +kernel
theorem dX4_playOne_57 : decode cX4_playOne 57 = .ok (.iload_n 3, 1) := by decide +kernel
theorem dX4_playOne_58 : decode cX4_playOne 58 = .ok (.iload 5, 2) := by decide +kernel
theorem dX4_playOne_60 : decode cX4_playOne 60 = .ok (.invokevirtual 34, 3) := by decide +kernel
theorem dX4_playOne_63 : decode cX4_playOne 63 = .ok (.bipush 63, 2) := by decide +kernel
theorem dX4_playOne_65 : decode cX4_playOne 65 = .ok (.iand, 1) := by decide +kernel
theorem dX4_playOne_66 : decode cX4_playOne 66 = .ok (.dup2, 1) := by decide +kernel
theorem dX4_playOne_67 : decode cX4_playOne 67 = .ok (.laload, 1) := by decide +kernel
theorem dX4_playOne_68 : decode cX4_playOne 68 = .ok (.aload_n 0, 1) := by decide +kernel
theorem dX4_playOne_69 : decode cX4_playOne 69 = .ok (.getfield 9, 3) := by decide +kernel
theorem dX4_playOne_72 : decode cX4_playOne 72 = .ok (.iload 5, 2) := by decide +kernel
theorem dX4_playOne_74 : decode cX4_playOne 74 = .ok (.laload, 1) := by decide +kernel
theorem dX4_playOne_75 : decode cX4_playOne 75 = .ok (.bipush 10, 2) := by decide +kernel
theorem dX4_playOne_77 : decode cX4_playOne 77 = .ok (.iload 4, 2) := by decide +kernel
theorem dX4_playOne_79 : decode cX4_playOne 79 = .ok (.isub, 1) := by decide +kernel
theorem dX4_playOne_80 : decode cX4_playOne 80 = .ok (.i2l, 1) := by decide +kernel
theorem dX4_playOne_81 : decode cX4_playOne 81 = .ok (.lmul, 1) := by decide +kernel
theorem dX4_playOne_82 : decode cX4_playOne 82 = .ok (.ladd, 1) := by decide +kernel
theorem dX4_playOne_83 : decode cX4_playOne 83 = .ok (.lastore, 1) := by decide +kernel
theorem dX4_playOne_84 : decode cX4_playOne 84 = .ok (.iinc 5 1, 3) := by decide +kernel
theorem dX4_playOne_87 : decode cX4_playOne 87 = .ok (.goto (-76), 3) := by decide +kernel
theorem dX4_playOne_90 : decode cX4_playOne 90 = .ok (.aload_n 0, 1) := by decide +kernel
theorem dX4_playOne_91 : decode cX4_playOne 91 = .ok (.getfield 9, 3) := by decide +kernel
theorem dX4_playOne_94 : decode cX4_playOne 94 = .ok (.astore 5, 2) := by decide +kernel
theorem dX4_playOne_96 : decode cX4_playOne 96 = .ok (.aload_n 0, 1) := by decide +kernel
theorem dX4_playOne_97 : decode cX4_playOne 97 = .ok (.aload_n 0, 1) := by decide +kernel
theorem dX4_playOne_98 : decode cX4_playOne 98 = .ok (.getfield 15, 3) := by decide +kernel
theorem dX4_playOne_101 : decode cX4_playOne 101 = .ok (.putfield 9, 3) := by decide +kernel
theorem dX4_playOne_104 : decode cX4_playOne 104 = .ok (.aload_n 0, 1) := by decide +kernel
theorem dX4_playOne_105 : decode cX4_playOne 105 = .ok (.aload 5, 2) := by decide +kernel
theorem dX4_playOne_107 : decode cX4_playOne 107 = .ok (.putfield 15, 3) := by decide +kernel
theorem dX4_playOne_110 : decode cX4_playOne 110 = .ok (.return_, 1) := by decide +kernel
theorem dX4_weightWith_0 : decode cX4_weightWith 0 = .ok (.lconst 0, 1) := by decide +kernel
theorem dX4_weightWith_1 : decode cX4_weightWith 1 = .ok (.lstore_n 2, 1) := by decide +kernel
theorem dX4_weightWith_2 : decode cX4_weightWith 2 = .ok (.iconst 0, 1) := by decide +kernel
theorem dX4_weightWith_3 : decode cX4_weightWith 3 = .ok (.istore 4, 2) := by decide +kernel
theorem dX4_weightWith_5 : decode cX4_weightWith 5 = .ok (.iload 4, 2) := by decide +kernel
theorem dX4_weightWith_7 : decode cX4_weightWith 7 = .ok (.bipush 64, 2) := by decide +kernel
theorem dX4_weightWith_9 : decode cX4_weightWith 9 = .ok (.if_icmp .ge 28, 3) := by decide +kernel
theorem dX4_weightWith_12 : decode cX4_weightWith 12 = .ok (.iload 4, 2) := by decide +kernel
theorem dX4_weightWith_14 : decode cX4_weightWith 14 = .ok (.iload_n 1, 1) := by decide +kernel
theorem dX4_weightWith_15 : decode cX4_weightWith 15 = .ok (.invokestatic 40, 3) := by decide +kernel
theorem dX4_weightWith_18 : decode cX4_weightWith 18 = .ok (.ifCond .eq 13, 3) := by decide +kernel
theorem dX4_weightWith_21 : decode cX4_weightWith 21 = .ok (.lload_n 2, 1) := by decide +kernel
theorem dX4_weightWith_22 : decode cX4_weightWith 22 = .ok (.aload_n 0, 1) := by decide +kernel
theorem dX4_weightWith_23 : decode cX4_weightWith 23 = .ok (.getfield 9, 3) := by decide +kernel
theorem dX4_weightWith_26 : decode cX4_weightWith 26 = .ok (.iload 4, 2) := by decide +kernel
theorem dX4_weightWith_28 : decode cX4_weightWith 28 = .ok (.laload, 1) := by decide +kernel
theorem dX4_weightWith_29 : decode cX4_weightWith 29 = .ok (.ladd, 1) := by decide +kernel
theorem dX4_weightWith_30 : decode cX4_weightWith 30 = .ok (.lstore_n 2, 1) := by decide +kernel
theorem dX4_weightWith_31 : decode cX4_weightWith 31 = .ok (.iinc 4 1, 3) := by decide +kernel
theorem dX4_weightWith_34 : decode cX4_weightWith 34 = .ok (.goto (-29), 3) := by decide +kernel
theorem dX4_weightWith_37 : decode cX4_weightWith 37 = .ok (.lload_n 2, 1) := by decide +kernel
theorem dX4_weightWith_38 : decode cX4_weightWith 38 = .ok (.lreturn, 1) := by decide +kernel
theorem dX4_weightOfHolders_0 : decode cX4_weightOfHolders 0 = .ok (.lconst 0, 1) := by decide +kernel
theorem dX4_weightOfHolders_1 : decode cX4_weightOfHolders 1 = .ok (.lstore_n 1, 1) := by decide +kernel
theorem dX4_weightOfHolders_2 : decode cX4_weightOfHolders 2 = .ok (.iconst 0, 1) := by decide +kernel
theorem dX4_weightOfHolders_3 : decode cX4_weightOfHolders 3 = .ok (.istore_n 3, 1) := by decide +kernel
theorem dX4_weightOfHolders_4 : decode cX4_weightOfHolders 4 = .ok (.iload_n 3, 1) := by decide +kernel
theorem dX4_weightOfHolders_5 : decode cX4_weightOfHolders 5 = .ok (.bipush 64, 2) := by decide +kernel
theorem dX4_weightOfHolders_7 : decode cX4_weightOfHolders 7 = .ok (.if_icmp .ge 24, 3) := by decide +kernel
theorem dX4_weightOfHolders_10 : decode cX4_weightOfHolders 10 = .ok (.lload_n 1, 1) := by decide +kernel
theorem dX4_weightOfHolders_11 : decode cX4_weightOfHolders 11 = .ok (.aload_n 0, 1) := by decide +kernel
theorem dX4_weightOfHolders_12 : decode cX4_weightOfHolders 12 = .ok (.getfield 9, 3) := by decide +kernel
theorem dX4_weightOfHolders_15 : decode cX4_weightOfHolders 15 = .ok (.iload_n 3, 1) := by decide +kernel
theorem dX4_weightOfHolders_16 : decode cX4_weightOfHolders 16 = .ok (.laload, 1) := by decide +kernel
theorem dX4_weightOfHolders_17 : decode cX4_weightOfHolders 17 = .ok (.iload_n 3, 1) := by decide +kernel
theorem dX4_weightOfHolders_18 : decode cX4_weightOfHolders 18 = .ok (.invokestatic 44, 3) := by decide +kernel
theorem dX4_weightOfHolders_21 : decode cX4_weightOfHolders 21 = .ok (.i2l, 1) := by decide +kernel
theorem dX4_weightOfHolders_22 : decode cX4_weightOfHolders 22 = .ok (.lmul, 1) := by decide +kernel
theorem dX4_weightOfHolders_23 : decode cX4_weightOfHolders 23 = .ok (.ladd, 1) := by decide +kernel
theorem dX4_weightOfHolders_24 : decode cX4_weightOfHolders 24 = .ok (.lstore_n 1, 1) := by decide +kernel
theorem dX4_weightOfHolders_25 : decode cX4_weightOfHolders 25 = .ok (.iinc 3 1, 3) := by decide +kernel
theorem dX4_weightOfHolders_28 : decode cX4_weightOfHolders 28 = .ok (.goto (-24), 3) := by decide +kernel
theorem dX4_weightOfHolders_31 : decode cX4_weightOfHolders 31 = .ok (.lload_n 1, 1) := by decide +kernel
theorem dX4_weightOfHolders_32 : decode cX4_weightOfHolders 32 = .ok (.lreturn, 1) := by decide +kernel
theorem dX5_prepare_0 : decode cX5_prepare 0 = .ok (.aload_n 0, 1) := by decide +kernel
theorem dX5_prepare_1 : decode cX5_prepare 1 = .ok (.aload_n 1, 1) := by decide +kernel
theorem dX5_prepare_2 : decode cX5_prepare 2 = .ok (.getfield 21, 3) := by decide +kernel
theorem dX5_prepare_5 : decode cX5_prepare 5 = .ok (.getfield 27, 3) := by decide +kernel
theorem dX5_prepare_8 : decode cX5_prepare 8 = .ok (.putfield 33, 3) := by decide +kernel
theorem dX5_prepare_11 : decode cX5_prepare 11 = .ok (.aload_n 0, 1) := by decide +kernel
theorem dX5_prepare_12 : decode cX5_prepare 12 = .ok (.aload_n 1, 1) := by decide +kernel
theorem dX5_prepare_13 : decode cX5_prepare 13 = .ok (.getfield 35, 3) := by decide +kernel
theorem dX5_prepare_16 : decode cX5_prepare 16 = .ok (.putfield 38, 3) := by decide +kernel
theorem dX5_prepare_19 : decode cX5_prepare 19 = .ok (.iconst 0, 1) := by decide +kernel
theorem dX5_prepare_20 : decode cX5_prepare 20 = .ok (.istore 4, 2) := by decide +kernel
theorem dX5_prepare_22 : decode cX5_prepare 22 = .ok (.iload 4, 2) := by decide +kernel
theorem dX5_prepare_24 : decode cX5_prepare 24 = .ok (.aload_n 0, 1) := by decide +kernel
theorem dX5_prepare_25 : decode cX5_prepare 25 = .ok (.getfield 33, 3) := by decide +kernel
theorem dX5_prepare_28 : decode cX5_prepare 28 = .ok (.if_icmp .ge 22, 3) := by decide +kernel
theorem dX5_prepare_31 : decode cX5_prepare 31 = .ok (.aload_n 0, 1) := by decide +kernel
theorem dX5_prepare_32 : decode cX5_prepare 32 = .ok (.getfield 15, 3) := by decide +kernel
theorem dX5_prepare_35 : decode cX5_prepare 35 = .ok (.iload 4, 2) := by decide +kernel
theorem dX5_prepare_37 : decode cX5_prepare 37 = .ok (.aload_n 1, 1) := by decide +kernel
theorem dX5_prepare_38 : decode cX5_prepare 38 = .ok (.iload 4, 2) := by decide +kernel
theorem dX5_prepare_40 : decode cX5_prepare 40 = .ok (.invokevirtual 39, 3) := by decide +kernel
theorem dX5_prepare_43 : decode cX5_prepare 43 = .ok (.iastore, 1) := by decide +kernel
theorem dX5_prepare_44 : decode cX5_prepare 44 = .ok (.iinc 4 1, 3) := by decide +kernel
theorem dX5_prepare_47 : decode cX5_prepare 47 = .ok (.goto (-25), 3) := by decide +kernel
theorem dX5_prepare_50 : decode cX5_prepare 50 = .ok (.iconst 0, 1) := by decide +kernel
theorem dX5_prepare_51 : decode cX5_prepare 51 = .ok (.istore 4, 2) := by decide +kernel
theorem dX5_prepare_53 : decode cX5_prepare 53 = .ok (.iload 4, 2) := by decide +kernel
theorem dX5_prepare_55 : decode cX5_prepare 55 = .ok (.aload_n 0, 1) := by decide +kernel
theorem dX5_prepare_56 : decode cX5_prepare 56 = .ok (.getfield 33, 3) := by decide +kernel
theorem dX5_prepare_59 : decode cX5_prepare 59 = .ok (.if_icmp .ge 74, 3) := by decide +kernel
theorem dX5_prepare_62 : decode cX5_prepare 62 = .ok (.aload_n 0, 1) := by decide +kernel
theorem dX5_prepare_63 : decode cX5_prepare 63 = .ok (.getfield 9, 3) := by decide +kernel
theorem dX5_prepare_66 : decode cX5_prepare 66 = .ok (.iload 4, 2) := by decide +kernel
theorem dX5_prepare_68 : decode cX5_prepare 68 = .ok (.iconst 0, 1) := by decide +kernel
theorem dX5_prepare_69 : decode cX5_prepare 69 = .ok (.iastore, 1) := by decide +kernel
theorem dX5_prepare_70 : decode cX5_prepare 70 = .ok (.iconst 0, 1) := by decide +kernel
theorem dX5_prepare_71 : decode cX5_prepare 71 = .ok (.istore 5, 2) := by decide +kernel
theorem dX5_prepare_73 : decode cX5_prepare 73 = .ok (.iload 5, 2) := by decide +kernel
theorem dX5_prepare_75 : decode cX5_prepare 75 = .ok (.aload_n 0, 1) := by decide +kernel
theorem dX5_prepare_76 : decode cX5_prepare 76 = .ok (.getfield 33, 3) := by decide +kernel
theorem dX5_prepare_79 : decode cX5_prepare 79 = .ok (.if_icmp .ge 48, 3) := by decide +kernel
theorem dX5_prepare_82 : decode cX5_prepare 82 = .ok (.iload 4, 2) := by decide +kernel
theorem dX5_prepare_84 : decode cX5_prepare 84 = .ok (.iload_n 3, 1) := by decide +kernel
theorem dX5_prepare_85 : decode cX5_prepare 85 = .ok (.if_icmp .eq 36, 3) := by decide +kernel
theorem dX5_prepare_88 : decode cX5_prepare 88 = .ok (.iload 5, 2) := by decide +kernel
theorem dX5_prepare_90 : decode cX5_prepare 90 = .ok (.iload_n 3, 1) := by decide +kernel
theorem dX5_prepare_91 : decode cX5_prepare 91 = .ok (.if_icmp .eq 30, 3) := by decide +kernel
theorem dX5_prepare_94 : decode cX5_prepare 94 = .ok (.aload_n 0, 1) := by decide +kernel
theorem dX5_prepare_95 : decode cX5_prepare 95 = .ok (.aload_n 1, 1) := by decide +kernel
theorem dX5_prepare_96 : decode cX5_prepare 96 = .ok (.iload_n 2, 1) := by decide +kernel
theorem dX5_prepare_97 : decode cX5_prepare 97 = .ok (.iload 4, 2) := by decide +kernel
theorem dX5_prepare_99 : decode cX5_prepare 99 = .ok (.iload 5, 2) := by decide +kernel
theorem dX5_prepare_101 : decode cX5_prepare 101 = .ok (.invokevirtual 42, 3) := by decide +kernel
theorem dX5_prepare_104 : decode cX5_prepare 104 = .ok (.ifCond .eq 17, 3) := by decide +kernel
theorem dX5_prepare_107 : decode cX5_prepare 107 = .ok (.aload_n 0, 1) := by decide +kernel
theorem dX5_prepare_108 : decode cX5_prepare 108 = .ok (.getfield 9, 3) := by decide +kernel
theorem dX5_prepare_111 : decode cX5_prepare 111 = .ok (.iload 4, 2) := by decide +kernel
theorem dX5_prepare_113 : decode cX5_prepare 113 = .ok (.dup2, 1) := by decide +kernel
theorem dX5_prepare_114 : decode cX5_prepare 114 = .ok (.iaload, 1) := by decide +kernel
theorem dX5_prepare_115 : decode cX5_prepare 115 = .ok (.iconst 1, 1) := by decide +kernel
theorem dX5_prepare_116 : decode cX5_prepare 116 = .ok (.iload 5, 2) := by decide +kernel
theorem dX5_prepare_118 : decode cX5_prepare 118 = .ok (.ishl, 1) := by decide +kernel
theorem dX5_prepare_119 : decode cX5_prepare 119 = .ok (.ior, 1) := by decide +kernel
theorem dX5_prepare_120 : decode cX5_prepare 120 = .ok (.iastore, 1) := by decide +kernel
theorem dX5_prepare_121 : decode cX5_prepare 121 = .ok (.iinc 5 1, 3) := by decide +kernel
theorem dX5_prepare_124 : decode cX5_prepare 124 = .ok (.goto (-51), 3) := by decide +kernel
theorem dX5_prepare_127 : decode cX5_prepare 127 = .ok (.iinc 4 1, 3) := by decide +kernel
theorem dX5_prepare_130 : decode cX5_prepare 130 = .ok (.goto (-77), 3) := by decide +kernel
theorem dX5_prepare_133 : decode cX5_prepare 133 = .ok (.return_, 1) := by decide +kernel
theorem dX5_mayGive_0 : decode cX5_mayGive 0 = .ok (.iload_n 2, 1) := by decide +kernel
theorem dX5_mayGive_1 : decode cX5_mayGive 1 = .ok (.tableswitch 73 0 2 #[27, 29, 45], 27) := by decide +kernel
theorem dX5_mayGive_28 : decode cX5_mayGive 28 = .ok (.iconst 1, 1) := by decide +kernel
theorem dX5_mayGive_29 : decode cX5_mayGive 29 = .ok (.ireturn, 1) := by decide +kernel
theorem dX5_mayGive_30 : decode cX5_mayGive 30 = .ok (.aload_n 0, 1) := by decide +kernel
theorem dX5_mayGive_31 : decode cX5_mayGive 31 = .ok (.getfield 15, 3) := by decide +kernel
theorem dX5_mayGive_34 : decode cX5_mayGive 34 = .ok (.iload 4, 2) := by decide +kernel
theorem dX5_mayGive_36 : decode cX5_mayGive 36 = .ok (.iaload, 1) := by decide +kernel
theorem dX5_mayGive_37 : decode cX5_mayGive 37 = .ok (.ifCond .le 7, 3) := by decide +kernel
theorem dX5_mayGive_40 : decode cX5_mayGive 40 = .ok (.iconst 1, 1) := by decide +kernel
theorem dX5_mayGive_41 : decode cX5_mayGive 41 = .ok (.goto 4, 3) := by decide +kernel
theorem dX5_mayGive_44 : decode cX5_mayGive 44 = .ok (.iconst 0, 1) := by decide +kernel
theorem dX5_mayGive_45 : decode cX5_mayGive 45 = .ok (.ireturn, 1) := by decide +kernel
theorem dX5_mayGive_46 : decode cX5_mayGive 46 = .ok (.aload_n 1, 1) := by decide +kernel
theorem dX5_mayGive_47 : decode cX5_mayGive 47 = .ok (.getfield 21, 3) := by decide +kernel
theorem dX5_mayGive_50 : decode cX5_mayGive 50 = .ok (.iload 4, 2) := by decide +kernel
theorem dX5_mayGive_52 : decode cX5_mayGive 52 = .ok (.iconst 1, 1) := by decide +kernel
theorem dX5_mayGive_53 : decode cX5_mayGive 53 = .ok (.invokevirtual 46, 3) := by decide +kernel
theorem dX5_mayGive_56 : decode cX5_mayGive 56 = .ok (.aload_n 1, 1) := by decide +kernel
theorem dX5_mayGive_57 : decode cX5_mayGive 57 = .ok (.getfield 21, 3) := by decide +kernel
theorem dX5_mayGive_60 : decode cX5_mayGive 60 = .ok (.iload_n 3, 1) := by decide +kernel
theorem dX5_mayGive_61 : decode cX5_mayGive 61 = .ok (.iconst 1, 1) := by decide +kernel
theorem dX5_mayGive_62 : decode cX5_mayGive 62 = .ok (.invokevirtual 46, 3) := by decide +kernel
theorem dX5_mayGive_65 : decode cX5_mayGive 65 = .ok (.if_icmp .gt 7, 3) := by decide +kernel
theorem dX5_mayGive_68 : decode cX5_mayGive 68 = .ok (.iconst 1, 1) := by decide +kernel
theorem dX5_mayGive_69 : decode cX5_mayGive 69 = .ok (.goto 4, 3) := by decide +kernel
theorem dX5_mayGive_72 : decode cX5_mayGive 72 = .ok (.iconst 0, 1) := by decide +kernel
theorem dX5_mayGive_73 : decode cX5_mayGive 73 = .ok (.ireturn, 1) := by decide +kernel
theorem dX5_mayGive_74 : decode cX5_mayGive 74 = .ok (.aload_n 0, 1) := by decide +kernel
theorem dX5_mayGive_75 : decode cX5_mayGive 75 = .ok (.getfield 15, 3) := by decide +kernel
theorem dX5_mayGive_78 : decode cX5_mayGive 78 = .ok (.iload 4, 2) := by decide +kernel
theorem dX5_mayGive_80 : decode cX5_mayGive 80 = .ok (.iaload, 1) := by decide +kernel
theorem dX5_mayGive_81 : decode cX5_mayGive 81 = .ok (.aload_n 0, 1) := by decide +kernel
theorem dX5_mayGive_82 : decode cX5_mayGive 82 = .ok (.getfield 15, 3) := by decide +kernel
theorem dX5_mayGive_85 : decode cX5_mayGive 85 = .ok (.iload_n 3, 1) := by decide +kernel
theorem dX5_mayGive_86 : decode cX5_mayGive 86 = .ok (.iaload, 1) := by decide +kernel
theorem dX5_mayGive_87 : decode cX5_mayGive 87 = .ok (.if_icmp .ge 7, 3) := by decide +kernel
theorem dX5_mayGive_90 : decode cX5_mayGive 90 = .ok (.iconst 1, 1) := by decide +kernel
theorem dX5_mayGive_91 : decode cX5_mayGive 91 = .ok (.goto 4, 3) := by decide +kernel
theorem dX5_mayGive_94 : decode cX5_mayGive 94 = .ok (.iconst 0, 1) := by decide +kernel
theorem dX5_mayGive_95 : decode cX5_mayGive 95 = .ok (.ireturn, 1) := by decide +kernel
theorem dX5_passed_0 : decode cX5_passed 0 = .ok (.iload_n 3, 1) := by decide +kernel
theorem dX5_passed_1 : decode cX5_passed 1 = .ok (.istore 4, 2) := by decide +kernel
theorem dX5_passed_3 : decode cX5_passed 3 = .ok (.iconst 0, 1) := by decide +kernel
theorem dX5_passed_4 : decode cX5_passed 4 = .ok (.istore 5, 2) := by decide +kernel
theorem dX5_passed_6 : decode cX5_passed 6 = .ok (.iload 5, 2) := by decide +kernel
theorem dX5_passed_8 : decode cX5_passed 8 = .ok (.aload_n 0, 1) := by decide +kernel
theorem dX5_passed_9 : decode cX5_passed 9 = .ok (.getfield 33, 3) := by decide +kernel
theorem dX5_passed_12 : decode cX5_passed 12 = .ok (.if_icmp .ge 38, 3) := by decide +kernel
theorem dX5_passed_15 : decode cX5_passed 15 = .ok (.iload_n 3, 1) := by decide +kernel
theorem dX5_passed_16 : decode cX5_passed 16 = .ok (.iload 5, 2) := by decide +kernel
theorem dX5_passed_18 : decode cX5_passed 18 = .ok (.invokestatic 50, 3) := by decide +kernel
theorem dX5_passed_21 : decode cX5_passed 21 = .ok (.ifCond .eq 23, 3) := by decide +kernel
theorem dX5_passed_24 : decode cX5_passed 24 = .ok (.iload 4, 2) := by decide +kernel
theorem dX5_passed_26 : decode cX5_passed 26 = .ok (.aload_n 0, 1) := by decide +kernel
theorem dX5_passed_27 : decode cX5_passed 27 = .ok (.getfield 9, 3) := by decide +kernel
theorem dX5_passed_30 : decode cX5_passed 30 = .ok (.iload 5, 2) := by decide +kernel
theorem dX5_passed_32 : decode cX5_passed 32 = .ok (.iaload, 1) := by decide +kernel
theorem dX5_passed_33 : decode cX5_passed 33 = .ok (.aload_n 1, 1) := by decide +kernel
theorem dX5_passed_34 : decode cX5_passed 34 = .ok (.iload 5, 2) := by decide +kernel
theorem dX5_passed_36 : decode cX5_passed 36 = .ok (.iload_n 2, 1) := by decide +kernel
theorem dX5_passed_37 : decode cX5_passed 37 = .ok (.invokevirtual 54, 3) := by decide +kernel
theorem dX5_passed_40 : decode cX5_passed 40 = .ok (.iand, 1) := by decide +kernel
theorem dX5_passed_41 : decode cX5_passed 41 = .ok (.ior, 1) := by decide +kernel
theorem dX5_passed_42 : decode cX5_passed 42 = .ok (.istore 4, 2) := by decide +kernel
theorem dX5_passed_44 : decode cX5_passed 44 = .ok (.iinc 5 1, 3) := by decide +kernel
theorem dX5_passed_47 : decode cX5_passed 47 = .ok (.goto (-41), 3) := by decide +kernel
theorem dX5_passed_50 : decode cX5_passed 50 = .ok (.iload 4, 2) := by decide +kernel
theorem dX5_passed_52 : decode cX5_passed 52 = .ok (.ireturn, 1) := by decide +kernel
theorem dX5_follow_0 : decode cX5_follow 0 = .ok (.aload_n 0, 1) := by decide +kernel
theorem dX5_follow_1 : decode cX5_follow 1 = .ok (.iload_n 2, 1) := by decide +kernel
theorem dX5_follow_2 : decode cX5_follow 2 = .ok (.putfield 59, 3) := by decide +kernel
theorem dX5_follow_5 : decode cX5_follow 5 = .ok (.iconst 1, 1) := by decide +kernel
theorem dX5_follow_6 : decode cX5_follow 6 = .ok (.iload_n 2, 1) := by decide +kernel
theorem dX5_follow_7 : decode cX5_follow 7 = .ok (.ishl, 1) := by decide +kernel
theorem dX5_follow_8 : decode cX5_follow 8 = .ok (.istore 4, 2) := by decide +kernel
theorem dX5_follow_10 : decode cX5_follow 10 = .ok (.iconst 0, 1) := by decide +kernel
theorem dX5_follow_11 : decode cX5_follow 11 = .ok (.istore 5, 2) := by decide +kernel
theorem dX5_follow_13 : decode cX5_follow 13 = .ok (.iload 5, 2) := by decide +kernel
theorem dX5_follow_15 : decode cX5_follow 15 = .ok (.aload_n 0, 1) := by decide +kernel
theorem dX5_follow_16 : decode cX5_follow 16 = .ok (.getfield 38, 3) := by decide +kernel
theorem dX5_follow_19 : decode cX5_follow 19 = .ok (.if_icmp .gt 38, 3) := by decide +kernel
theorem dX5_follow_22 : decode cX5_follow 22 = .ok (.iload_n 3, 1) := by decide +kernel
theorem dX5_follow_23 : decode cX5_follow 23 = .ok (.iload 5, 2) := by decide +kernel
theorem dX5_follow_25 : decode cX5_follow 25 = .ok (.invokestatic 50, 3) := by decide +kernel
theorem dX5_follow_28 : decode cX5_follow 28 = .ok (.ifCond .ne 14, 3) := by decide +kernel
theorem dX5_follow_31 : decode cX5_follow 31 = .ok (.aload_n 0, 1) := by decide +kernel
theorem dX5_follow_32 : decode cX5_follow 32 = .ok (.aload_n 1, 1) := by decide +kernel
theorem dX5_follow_33 : decode cX5_follow 33 = .ok (.iload 5, 2) := by decide +kernel
theorem dX5_follow_35 : decode cX5_follow 35 = .ok (.iload 4, 2) := by decide +kernel
theorem dX5_follow_37 : decode cX5_follow 37 = .ok (.invokevirtual 62, 3) := by decide +kernel
theorem dX5_follow_40 : decode cX5_follow 40 = .ok (.istore 4, 2) := by decide +kernel
theorem dX5_follow_42 : decode cX5_follow 42 = .ok (.aload_n 0, 1) := by decide +kernel
theorem dX5_follow_43 : decode cX5_follow 43 = .ok (.getfield 18, 3) := by decide +kernel
theorem dX5_follow_46 : decode cX5_follow 46 = .ok (.iload 5, 2) := by decide +kernel
theorem dX5_follow_48 : decode cX5_follow 48 = .ok (.iload 4, 2) := by decide +kernel
theorem dX5_follow_50 : decode cX5_follow 50 = .ok (.iastore, 1) := by decide +kernel
theorem dX5_follow_51 : decode cX5_follow 51 = .ok (.iinc 5 1, 3) := by decide +kernel
theorem dX5_follow_54 : decode cX5_follow 54 = .ok (.goto (-41), 3) := by decide +kernel
theorem dX5_follow_57 : decode cX5_follow 57 = .ok (.return_, 1) := by decide +kernel
theorem dX5_behind_0 : decode cX5_behind 0 = .ok (.iload_n 1, 1) := by decide +kernel
theorem dX5_behind_1 : decode cX5_behind 1 = .ok (.ifCond .lt 20, 3) := by decide +kernel
theorem dX5_behind_4 : decode cX5_behind 4 = .ok (.iload_n 1, 1) := by decide +kernel
theorem dX5_behind_5 : decode cX5_behind 5 = .ok (.aload_n 0, 1) := by decide +kernel
theorem dX5_behind_6 : decode cX5_behind 6 = .ok (.getfield 38, 3) := by decide +kernel
theorem dX5_behind_9 : decode cX5_behind 9 = .ok (.if_icmp .gt 12, 3) := by decide +kernel
theorem dX5_behind_12 : decode cX5_behind 12 = .ok (.aload_n 0, 1) := by decide +kernel
theorem dX5_behind_13 : decode cX5_behind 13 = .ok (.getfield 18, 3) := by decide +kernel
theorem dX5_behind_16 : decode cX5_behind 16 = .ok (.iload_n 1, 1) := by decide +kernel
theorem dX5_behind_17 : decode cX5_behind 17 = .ok (.iaload, 1) := by decide +kernel
theorem dX5_behind_18 : decode cX5_behind 18 = .ok (.goto 4, 3) := by decide +kernel
theorem dX5_behind_21 : decode cX5_behind 21 = .ok (.iconst 0, 1) := by decide +kernel
theorem dX5_behind_22 : decode cX5_behind 22 = .ok (.ireturn, 1) := by decide +kernel
theorem dX5_ahead_0 : decode cX5_ahead 0 = .ok (.iload_n 1, 1) := by decide +kernel
theorem dX5_ahead_1 : decode cX5_ahead 1 = .ok (.ifCond .ne 12, 3) := by decide +kernel
theorem dX5_ahead_4 : decode cX5_ahead 4 = .ok (.iconst 1, 1) := by decide +kernel
theorem dX5_ahead_5 : decode cX5_ahead 5 = .ok (.aload_n 0, 1) := by decide +kernel
theorem dX5_ahead_6 : decode cX5_ahead 6 = .ok (.getfield 59, 3) := by decide +kernel
theorem dX5_ahead_9 : decode cX5_ahead 9 = .ok (.ishl, 1) := by decide +kernel
theorem dX5_ahead_10 : decode cX5_ahead 10 = .ok (.goto 10, 3) := by decide +kernel
theorem dX5_ahead_13 : decode cX5_ahead 13 = .ok (.aload_n 0, 1) := by decide +kernel
theorem dX5_ahead_14 : decode cX5_ahead 14 = .ok (.iload_n 1, 1) := by decide +kernel
theorem dX5_ahead_15 : decode cX5_ahead 15 = .ok (.iconst 1, 1) := by decide +kernel
theorem dX5_ahead_16 : decode cX5_ahead 16 = .ok (.isub, 1) := by decide +kernel
theorem dX5_ahead_17 : decode cX5_ahead 17 = .ok (.invokevirtual 66, 3) := by decide +kernel
theorem dX5_ahead_20 : decode cX5_ahead 20 = .ok (.ireturn, 1) := by decide +kernel
theorem dX5_gotAt_0 : decode cX5_gotAt 0 = .ok (.iconst 0, 1) := by decide +kernel
theorem dX5_gotAt_1 : decode cX5_gotAt 1 = .ok (.istore_n 2, 1) := by decide +kernel
theorem dX5_gotAt_2 : decode cX5_gotAt 2 = .ok (.iload_n 2, 1) := by decide +kernel
theorem dX5_gotAt_3 : decode cX5_gotAt 3 = .ok (.aload_n 0, 1) := by decide +kernel
theorem dX5_gotAt_4 : decode cX5_gotAt 4 = .ok (.getfield 38, 3) := by decide +kernel
theorem dX5_gotAt_7 : decode cX5_gotAt 7 = .ok (.if_icmp .gt 24, 3) := by decide +kernel
theorem dX5_gotAt_10 : decode cX5_gotAt 10 = .ok (.aload_n 0, 1) := by decide +kernel
theorem dX5_gotAt_11 : decode cX5_gotAt 11 = .ok (.getfield 18, 3) := by decide +kernel
theorem dX5_gotAt_14 : decode cX5_gotAt 14 = .ok (.iload_n 2, 1) := by decide +kernel
theorem dX5_gotAt_15 : decode cX5_gotAt 15 = .ok (.iaload, 1) := by decide +kernel
theorem dX5_gotAt_16 : decode cX5_gotAt 16 = .ok (.iload_n 1, 1) := by decide +kernel
theorem dX5_gotAt_17 : decode cX5_gotAt 17 = .ok (.invokestatic 50, 3) := by decide +kernel
theorem dX5_gotAt_20 : decode cX5_gotAt 20 = .ok (.ifCond .eq 5, 3) := by decide +kernel
theorem dX5_gotAt_23 : decode cX5_gotAt 23 = .ok (.iload_n 2, 1) := by decide +kernel
theorem dX5_gotAt_24 : decode cX5_gotAt 24 = .ok (.ireturn, 1) := by decide +kernel
theorem dX5_gotAt_25 : decode cX5_gotAt 25 = .ok (.iinc 2 1, 3) := by decide +kernel
theorem dX5_gotAt_28 : decode cX5_gotAt 28 = .ok (.goto (-26), 3) := by decide +kernel
theorem dX5_gotAt_31 : decode cX5_gotAt 31 = .ok (.iconst (-1), 1) := by decide +kernel
theorem dX5_gotAt_32 : decode cX5_gotAt 32 = .ok (.ireturn, 1) := by decide +kernel
theorem dX5_giverOf_0 : decode cX5_giverOf 0 = .ok (.aload_n 0, 1) := by decide +kernel
theorem dX5_giverOf_1 : decode cX5_giverOf 1 = .ok (.iload_n 2, 1) := by decide +kernel
theorem dX5_giverOf_2 : decode cX5_giverOf 2 = .ok (.invokevirtual 69, 3) := by decide +kernel
theorem dX5_giverOf_5 : decode cX5_giverOf 5 = .ok (.istore_n 3, 1) := by decide +kernel
theorem dX5_giverOf_6 : decode cX5_giverOf 6 = .ok (.iload_n 2, 1) := by decide +kernel
theorem dX5_giverOf_7 : decode cX5_giverOf 7 = .ok (.aload_n 0, 1) := by decide +kernel
theorem dX5_giverOf_8 : decode cX5_giverOf 8 = .ok (.getfield 59, 3) := by decide +kernel
theorem dX5_giverOf_11 : decode cX5_giverOf 11 = .ok (.if_icmp .eq 8, 3) := by decide +kernel
theorem dX5_giverOf_14 : decode cX5_giverOf 14 = .ok (.iload_n 3, 1) := by decide +kernel
theorem dX5_giverOf_15 : decode cX5_giverOf 15 = .ok (.iconst (-1), 1) := by decide +kernel
theorem dX5_giverOf_16 : decode cX5_giverOf 16 = .ok (.if_icmp .ne 5, 3) := by decide +kernel
theorem dX5_giverOf_19 : decode cX5_giverOf 19 = .ok (.iconst (-1), 1) := by decide +kernel
theorem dX5_giverOf_20 : decode cX5_giverOf 20 = .ok (.ireturn, 1) := by decide +kernel
theorem dX5_giverOf_21 : decode cX5_giverOf 21 = .ok (.iconst 0, 1) := by decide +kernel
theorem dX5_giverOf_22 : decode cX5_giverOf 22 = .ok (.istore 4, 2) := by decide +kernel
theorem dX5_giverOf_24 : decode cX5_giverOf 24 = .ok (.iload 4, 2) := by decide +kernel
theorem dX5_giverOf_26 : decode cX5_giverOf 26 = .ok (.aload_n 0, 1) := by decide +kernel
theorem dX5_giverOf_27 : decode cX5_giverOf 27 = .ok (.getfield 33, 3) := by decide +kernel
theorem dX5_giverOf_30 : decode cX5_giverOf 30 = .ok (.if_icmp .ge 47, 3) := by decide +kernel
theorem dX5_giverOf_33 : decode cX5_giverOf 33 = .ok (.aload_n 0, 1) := by decide +kernel
theorem dX5_giverOf_34 : decode cX5_giverOf 34 = .ok (.iload_n 3, 1) := by decide +kernel
theorem dX5_giverOf_35 : decode cX5_giverOf 35 = .ok (.invokevirtual 72, 3) := by decide +kernel
theorem dX5_giverOf_38 : decode cX5_giverOf 38 = .ok (.iload 4, 2) := by decide +kernel
theorem dX5_giverOf_40 : decode cX5_giverOf 40 = .ok (.invokestatic 50, 3) := by decide +kernel
theorem dX5_giverOf_43 : decode cX5_giverOf 43 = .ok (.ifCond .eq 28, 3) := by decide +kernel
theorem dX5_giverOf_46 : decode cX5_giverOf 46 = .ok (.aload_n 0, 1) := by decide +kernel
theorem dX5_giverOf_47 : decode cX5_giverOf 47 = .ok (.getfield 9, 3) := by decide +kernel
theorem dX5_giverOf_50 : decode cX5_giverOf 50 = .ok (.iload 4, 2) := by decide +kernel
theorem dX5_giverOf_52 : decode cX5_giverOf 52 = .ok (.iaload, 1) := by decide +kernel
theorem dX5_giverOf_53 : decode cX5_giverOf 53 = .ok (.aload_n 1, 1) := by decide +kernel
theorem dX5_giverOf_54 : decode cX5_giverOf 54 = .ok (.iload 4, 2) := by decide +kernel
theorem dX5_giverOf_56 : decode cX5_giverOf 56 = .ok (.iload_n 3, 1) := by decide +kernel
theorem dX5_giverOf_57 : decode cX5_giverOf 57 = .ok (.invokevirtual 54, 3) := by decide +kernel
theorem dX5_giverOf_60 : decode cX5_giverOf 60 = .ok (.iand, 1) := by decide +kernel
theorem dX5_giverOf_61 : decode cX5_giverOf 61 = .ok (.iload_n 2, 1) := by decide +kernel
theorem dX5_giverOf_62 : decode cX5_giverOf 62 = .ok (.invokestatic 50, 3) := by decide +kernel
theorem dX5_giverOf_65 : decode cX5_giverOf 65 = .ok (.ifCond .eq 6, 3) := by decide +kernel
theorem dX5_giverOf_68 : decode cX5_giverOf 68 = .ok (.iload 4, 2) := by decide +kernel
theorem dX5_giverOf_70 : decode cX5_giverOf 70 = .ok (.ireturn, 1) := by decide +kernel
theorem dX5_giverOf_71 : decode cX5_giverOf 71 = .ok (.iinc 4 1, 3) := by decide +kernel
theorem dX5_giverOf_74 : decode cX5_giverOf 74 = .ok (.goto (-50), 3) := by decide +kernel
theorem dX5_giverOf_77 : decode cX5_giverOf 77 = .ok (.iconst (-1), 1) := by decide +kernel
theorem dX5_giverOf_78 : decode cX5_giverOf 78 = .ok (.ireturn, 1) := by decide +kernel
theorem dX6_read_0 : decode cX6_read 0 = .ok (.aload_n 0, 1) := by decide +kernel
theorem dX6_read_1 : decode cX6_read 1 = .ok (.iconst 0, 1) := by decide +kernel
theorem dX6_read_2 : decode cX6_read 2 = .ok (.iload_n 1, 1) := by decide +kernel
theorem dX6_read_3 : decode cX6_read 3 = .ok (.aload_n 0, 1) := by decide +kernel
theorem dX6_read_4 : decode cX6_read 4 = .ok (.getfield 9, 3) := by decide +kernel
theorem dX6_read_7 : decode cX6_read 7 = .ok (.arraylength, 1) := by decide +kernel
theorem dX6_read_8 : decode cX6_read 8 = .ok (.invokestatic 23, 3) := by decide +kernel
theorem dX6_read_11 : decode cX6_read 11 = .ok (.invokestatic 29, 3) := by decide +kernel
theorem dX6_read_14 : decode cX6_read 14 = .ok (.putfield 32, 3) := by decide +kernel
theorem dX6_read_17 : decode cX6_read 17 = .ok (.aload_n 0, 1) := by decide +kernel
theorem dX6_read_18 : decode cX6_read 18 = .ok (.getfield 15, 3) := by decide +kernel
theorem dX6_read_21 : decode cX6_read 21 = .ok (.invokevirtual 35, 3) := by decide +kernel
theorem dX6_read_24 : decode cX6_read 24 = .ok (.aload_n 0, 1) := by decide +kernel
theorem dX6_read_25 : decode cX6_read 25 = .ok (.iconst 0, 1) := by decide +kernel
theorem dX6_read_26 : decode cX6_read 26 = .ok (.putfield 40, 3) := by decide +kernel
theorem dX6_read_29 : decode cX6_read 29 = .ok (.aload_n 0, 1) := by decide +kernel
theorem dX6_read_30 : decode cX6_read 30 = .ok (.iconst (-1), 1) := by decide +kernel
theorem dX6_read_31 : decode cX6_read 31 = .ok (.putfield 19, 3) := by decide +kernel
theorem dX6_read_34 : decode cX6_read 34 = .ok (.aload_n 0, 1) := by decide +kernel
theorem dX6_read_35 : decode cX6_read 35 = .ok (.iconst 0, 1) := by decide +kernel
theorem dX6_read_36 : decode cX6_read 36 = .ok (.putfield 43, 3) := by decide +kernel
theorem dX6_read_39 : decode cX6_read 39 = .ok (.aload_n 0, 1) := by decide +kernel
theorem dX6_read_40 : decode cX6_read 40 = .ok (.invokevirtual 46, 3) := by decide +kernel
theorem dX6_read_43 : decode cX6_read 43 = .ok (.iconst 0, 1) := by decide +kernel
theorem dX6_read_44 : decode cX6_read 44 = .ok (.istore_n 2, 1) := by decide +kernel
theorem dX6_read_45 : decode cX6_read 45 = .ok (.iload_n 2, 1) := by decide +kernel
theorem dX6_read_46 : decode cX6_read 46 = .ok (.aload_n 0, 1) := by decide +kernel
theorem dX6_read_47 : decode cX6_read 47 = .ok (.getfield 32, 3) := by decide +kernel
theorem dX6_read_50 : decode cX6_read 50 = .ok (.if_icmp .ge 27, 3) := by decide +kernel
theorem dX6_read_53 : decode cX6_read 53 = .ok (.aload_n 0, 1) := by decide +kernel
theorem dX6_read_54 : decode cX6_read 54 = .ok (.getfield 40, 3) := by decide +kernel
theorem dX6_read_57 : decode cX6_read 57 = .ok (.ifCond .ne 20, 3) := by decide +kernel
theorem dX6_read_60 : decode cX6_read 60 = .ok (.aload_n 0, 1) := by decide +kernel
theorem dX6_read_61 : decode cX6_read 61 = .ok (.getfield 49, 3) := by decide +kernel
theorem dX6_read_64 : decode cX6_read 64 = .ok (.ifCond .eq 13, 3) := by decide +kernel
theorem dX6_read_67 : decode cX6_read 67 = .ok (.aload_n 0, 1) := by decide +kernel
theorem dX6_read_68 : decode cX6_read 68 = .ok (.invokevirtual 52, 3) := by decide +kernel
theorem dX6_read_71 : decode cX6_read 71 = .ok (.iinc 2 1, 3) := by decide +kernel
theorem dX6_read_74 : decode cX6_read 74 = .ok (.goto (-29), 3) := by decide +kernel
theorem dX6_read_77 : decode cX6_read 77 = .ok (.return_, 1) := by decide +kernel
theorem dX6_readLine_0 : decode cX6_readLine 0 = .ok (.aload_n 0, 1) := by decide +kernel
theorem dX6_readLine_1 : decode cX6_readLine 1 = .ok (.getfield 15, 3) := by decide +kernel
theorem dX6_readLine_4 : decode cX6_readLine 4 = .ok (.getfield 55, 3) := by decide +kernel
theorem dX6_readLine_7 : decode cX6_readLine 7 = .ok (.ifCond .ne 10, 3) := by decide +kernel
theorem dX6_readLine_10 : decode cX6_readLine 10 = .ok (.aload_n 0, 1) := by decide +kernel
theorem dX6_readLine_11 : decode cX6_readLine 11 = .ok (.invokevirtual 58, 3) := by decide +kernel
theorem dX6_readLine_14 : decode cX6_readLine 14 = .ok (.goto 72, 3) := by decide +kernel
theorem dX6_readLine_17 : decode cX6_readLine 17 = .ok (.aload_n 0, 1) := by decide +kernel
theorem dX6_readLine_18 : decode cX6_readLine 18 = .ok (.ldc 61, 2) := by decide +kernel
theorem dX6_readLine_20 : decode cX6_readLine 20 = .ok (.invokevirtual 63, 3) := by decide +kernel
theorem dX6_readLine_23 : decode cX6_readLine 23 = .ok (.ifCond .eq 10, 3) := by decide +kernel
theorem dX6_readLine_26 : decode cX6_readLine 26 = .ok (.aload_n 0, 1) := by decide +kernel
theorem dX6_readLine_27 : decode cX6_readLine 27 = .ok (.invokevirtual 67, 3) := by decide +kernel
theorem dX6_readLine_30 : decode cX6_readLine 30 = .ok (.goto 56, 3) := by decide +kernel
theorem dX6_readLine_33 : decode cX6_readLine 33 = .ok (.aload_n 0, 1) := by decide +kernel
theorem dX6_readLine_34 : decode cX6_readLine 34 = .ok (.ldc 70, 2) := by decide +kernel
theorem dX6_readLine_36 : decode cX6_readLine 36 = .ok (.invokevirtual 63, 3) := by decide +kernel
theorem dX6_readLine_39 : decode cX6_readLine 39 = .ok (.ifCond .eq 10, 3) := by decide +kernel
theorem dX6_readLine_42 : decode cX6_readLine 42 = .ok (.aload_n 0, 1) := by decide +kernel
theorem dX6_readLine_43 : decode cX6_readLine 43 = .ok (.invokevirtual 72, 3) := by decide +kernel
theorem dX6_readLine_46 : decode cX6_readLine 46 = .ok (.goto 40, 3) := by decide +kernel
theorem dX6_readLine_49 : decode cX6_readLine 49 = .ok (.aload_n 0, 1) := by decide +kernel
theorem dX6_readLine_50 : decode cX6_readLine 50 = .ok (.ldc 75, 2) := by decide +kernel
theorem dX6_readLine_52 : decode cX6_readLine 52 = .ok (.invokevirtual 63, 3) := by decide +kernel
theorem dX6_readLine_55 : decode cX6_readLine 55 = .ok (.ifCond .eq 10, 3) := by decide +kernel
theorem dX6_readLine_58 : decode cX6_readLine 58 = .ok (.aload_n 0, 1) := by decide +kernel
theorem dX6_readLine_59 : decode cX6_readLine 59 = .ok (.invokevirtual 77, 3) := by decide +kernel
theorem dX6_readLine_62 : decode cX6_readLine 62 = .ok (.goto 24, 3) := by decide +kernel
theorem dX6_readLine_65 : decode cX6_readLine 65 = .ok (.aload_n 0, 1) := by decide +kernel
theorem dX6_readLine_66 : decode cX6_readLine 66 = .ok (.ldc 80, 2) := by decide +kernel
theorem dX6_readLine_68 : decode cX6_readLine 68 = .ok (.invokevirtual 63, 3) := by decide +kernel
theorem dX6_readLine_71 : decode cX6_readLine 71 = .ok (.ifCond .eq 10, 3) := by decide +kernel
theorem dX6_readLine_74 : decode cX6_readLine 74 = .ok (.aload_n 0, 1) := by decide +kernel
theorem dX6_readLine_75 : decode cX6_readLine 75 = .ok (.invokevirtual 82, 3) := by decide +kernel
theorem dX6_readLine_78 : decode cX6_readLine 78 = .ok (.goto 8, 3) := by decide +kernel
theorem dX6_readLine_81 : decode cX6_readLine 81 = .ok (.aload_n 0, 1) := by decide +kernel
theorem dX6_readLine_82 : decode cX6_readLine 82 = .ok (.iconst 1, 1) := by decide +kernel
theorem dX6_readLine_83 : decode cX6_readLine 83 = .ok (.invokevirtual 85, 3) := by decide +kernel
theorem dX6_readLine_86 : decode cX6_readLine 86 = .ok (.aload_n 0, 1) := by decide +kernel
theorem dX6_readLine_87 : decode cX6_readLine 87 = .ok (.getfield 15, 3) := by decide +kernel
theorem dX6_readLine_90 : decode cX6_readLine 90 = .ok (.dup, 1) := by decide +kernel
theorem dX6_readLine_91 : decode cX6_readLine 91 = .ok (.getfield 55, 3) := by decide +kernel
theorem dX6_readLine_94 : decode cX6_readLine 94 = .ok (.iconst 1, 1) := by decide +kernel
theorem dX6_readLine_95 : decode cX6_readLine 95 = .ok (.iadd, 1) := by decide +kernel
theorem dX6_readLine_96 : decode cX6_readLine 96 = .ok (.putfield 55, 3) := by decide +kernel
theorem dX6_readLine_99 : decode cX6_readLine 99 = .ok (.return_, 1) := by decide +kernel
theorem dX6_readBall_0 : decode cX6_readBall 0 = .ok (.aload_n 0, 1) := by decide +kernel
theorem dX6_readBall_1 : decode cX6_readBall 1 = .ok (.ldc 89, 2) := by decide +kernel
theorem dX6_readBall_3 : decode cX6_readBall 3 = .ok (.invokevirtual 90, 3) := by decide +kernel
theorem dX6_readBall_6 : decode cX6_readBall 6 = .ok (.aload_n 0, 1) := by decide +kernel
theorem dX6_readBall_7 : decode cX6_readBall 7 = .ok (.ldc 94, 2) := by decide +kernel
theorem dX6_readBall_9 : decode cX6_readBall 9 = .ok (.invokevirtual 90, 3) := by decide +kernel
theorem dX6_readBall_12 : decode cX6_readBall 12 = .ok (.aload_n 0, 1) := by decide +kernel
theorem dX6_readBall_13 : decode cX6_readBall 13 = .ok (.getfield 15, 3) := by decide +kernel
theorem dX6_readBall_16 : decode cX6_readBall 16 = .ok (.aload_n 0, 1) := by decide +kernel
theorem dX6_readBall_17 : decode cX6_readBall 17 = .ok (.iconst 1, 1) := by decide +kernel
theorem dX6_readBall_18 : decode cX6_readBall 18 = .ok (.bipush 8, 2) := by decide +kernel
theorem dX6_readBall_20 : decode cX6_readBall 20 = .ok (.invokevirtual 96, 3) := by decide +kernel
theorem dX6_readBall_23 : decode cX6_readBall 23 = .ok (.putfield 99, 3) := by decide +kernel
theorem dX6_readBall_26 : decode cX6_readBall 26 = .ok (.aload_n 0, 1) := by decide +kernel
theorem dX6_readBall_27 : decode cX6_readBall 27 = .ok (.ldc 101, 2) := by decide +kernel
theorem dX6_readBall_29 : decode cX6_readBall 29 = .ok (.invokevirtual 90, 3) := by decide +kernel
theorem dX6_readBall_32 : decode cX6_readBall 32 = .ok (.aload_n 0, 1) := by decide +kernel
theorem dX6_readBall_33 : decode cX6_readBall 33 = .ok (.getfield 15, 3) := by decide +kernel
theorem dX6_readBall_36 : decode cX6_readBall 36 = .ok (.aload_n 0, 1) := by decide +kernel
theorem dX6_readBall_37 : decode cX6_readBall 37 = .ok (.iconst 1, 1) := by decide +kernel
theorem dX6_readBall_38 : decode cX6_readBall 38 = .ok (.bipush 14, 2) := by decide +kernel
theorem dX6_readBall_40 : decode cX6_readBall 40 = .ok (.invokevirtual 96, 3) := by decide +kernel
theorem dX6_readBall_43 : decode cX6_readBall 43 = .ok (.putfield 103, 3) := by decide +kernel
theorem dX6_readBall_46 : decode cX6_readBall 46 = .ok (.aload_n 0, 1) := by decide +kernel
theorem dX6_readBall_47 : decode cX6_readBall 47 = .ok (.ldc 105, 2) := by decide +kernel
theorem dX6_readBall_49 : decode cX6_readBall 49 = .ok (.invokevirtual 90, 3) := by decide +kernel
theorem dX6_readBall_52 : decode cX6_readBall 52 = .ok (.aload_n 0, 1) := by decide +kernel
theorem dX6_readBall_53 : decode cX6_readBall 53 = .ok (.getfield 15, 3) := by decide +kernel
theorem dX6_readBall_56 : decode cX6_readBall 56 = .ok (.aload_n 0, 1) := by decide +kernel
theorem dX6_readBall_57 : decode cX6_readBall 57 = .ok (.iconst 0, 1) := by decide +kernel
theorem dX6_readBall_58 : decode cX6_readBall 58 = .ok (.iconst 3, 1) := by decide +kernel
theorem dX6_readBall_59 : decode cX6_readBall 59 = .ok (.invokevirtual 96, 3) := by decide +kernel
theorem dX6_readBall_62 : decode cX6_readBall 62 = .ok (.putfield 107, 3) := by decide +kernel
theorem dX6_readBall_65 : decode cX6_readBall 65 = .ok (.aload_n 0, 1) := by decide +kernel
theorem dX6_readBall_66 : decode cX6_readBall 66 = .ok (.ldc 109, 2) := by decide +kernel
theorem dX6_readBall_68 : decode cX6_readBall 68 = .ok (.invokevirtual 90, 3) := by decide +kernel
theorem dX6_readBall_71 : decode cX6_readBall 71 = .ok (.aload_n 0, 1) := by decide +kernel
theorem dX6_readBall_72 : decode cX6_readBall 72 = .ok (.getfield 15, 3) := by decide +kernel
theorem dX6_readBall_75 : decode cX6_readBall 75 = .ok (.aload_n 0, 1) := by decide +kernel
theorem dX6_readBall_76 : decode cX6_readBall 76 = .ok (.iconst 0, 1) := by decide +kernel
theorem dX6_readBall_77 : decode cX6_readBall 77 = .ok (.bipush 10, 2) := by decide +kernel
theorem dX6_readBall_79 : decode cX6_readBall 79 = .ok (.invokevirtual 96, 3) := by decide +kernel
theorem dX6_readBall_82 : decode cX6_readBall 82 = .ok (.putfield 111, 3) := by decide +kernel
theorem dX6_readBall_85 : decode cX6_readBall 85 = .ok (.aload_n 0, 1) := by decide +kernel
theorem dX6_readBall_86 : decode cX6_readBall 86 = .ok (.invokevirtual 113, 3) := by decide +kernel
theorem dX6_readBall_89 : decode cX6_readBall 89 = .ok (.return_, 1) := by decide +kernel
theorem dX6_readDoor_0 : decode cX6_readDoor 0 = .ok (.aload_n 0, 1) := by decide +kernel
theorem dX6_readDoor_1 : decode cX6_readDoor 1 = .ok (.aload_n 0, 1) := by decide +kernel
theorem dX6_readDoor_2 : decode cX6_readDoor 2 = .ok (.getfield 15, 3) := by decide +kernel
theorem dX6_readDoor_5 : decode cX6_readDoor 5 = .ok (.getfield 116, 3) := by decide +kernel
theorem dX6_readDoor_8 : decode cX6_readDoor 8 = .ok (.invokevirtual 120, 3) := by decide +kernel
theorem dX6_readDoor_11 : decode cX6_readDoor 11 = .ok (.aload_n 0, 1) := by decide +kernel
theorem dX6_readDoor_12 : decode cX6_readDoor 12 = .ok (.iconst 0, 1) := by decide +kernel
theorem dX6_readDoor_13 : decode cX6_readDoor 13 = .ok (.aload_n 0, 1) := by decide +kernel
theorem dX6_readDoor_14 : decode cX6_readDoor 14 = .ok (.getfield 15, 3) := by decide +kernel
theorem dX6_readDoor_17 : decode cX6_readDoor 17 = .ok (.getfield 99, 3) := by decide +kernel
theorem dX6_readDoor_20 : decode cX6_readDoor 20 = .ok (.iconst 1, 1) := by decide +kernel
theorem dX6_readDoor_21 : decode cX6_readDoor 21 = .ok (.isub, 1) := by decide +kernel
theorem dX6_readDoor_22 : decode cX6_readDoor 22 = .ok (.invokevirtual 96, 3) := by decide +kernel
theorem dX6_readDoor_25 : decode cX6_readDoor 25 = .ok (.istore_n 1, 1) := by decide +kernel
theorem dX6_readDoor_26 : decode cX6_readDoor 26 = .ok (.aload_n 0, 1) := by decide +kernel
theorem dX6_readDoor_27 : decode cX6_readDoor 27 = .ok (.ldc 124, 2) := by decide +kernel
theorem dX6_readDoor_29 : decode cX6_readDoor 29 = .ok (.invokevirtual 90, 3) := by decide +kernel
theorem dX6_readDoor_32 : decode cX6_readDoor 32 = .ok (.aload_n 0, 1) := by decide +kernel
theorem dX6_readDoor_33 : decode cX6_readDoor 33 = .ok (.getfield 49, 3) := by decide +kernel
theorem dX6_readDoor_36 : decode cX6_readDoor 36 = .ok (.iconst 2, 1) := by decide +kernel
theorem dX6_readDoor_37 : decode cX6_readDoor 37 = .ok (.if_icmp .ne 16, 3) := by decide +kernel
theorem dX6_readDoor_40 : decode cX6_readDoor 40 = .ok (.aload_n 0, 1) := by decide +kernel
theorem dX6_readDoor_41 : decode cX6_readDoor 41 = .ok (.invokevirtual 126, 3) := by decide +kernel
theorem dX6_readDoor_44 : decode cX6_readDoor 44 = .ok (.iload_n 1, 1) := by decide +kernel
theorem dX6_readDoor_45 : decode cX6_readDoor 45 = .ok (.if_icmp .ne 8, 3) := by decide +kernel
theorem dX6_readDoor_48 : decode cX6_readDoor 48 = .ok (.aload_n 0, 1) := by decide +kernel
theorem dX6_readDoor_49 : decode cX6_readDoor 49 = .ok (.iconst 2, 1) := by decide +kernel
theorem dX6_readDoor_50 : decode cX6_readDoor 50 = .ok (.invokevirtual 85, 3) := by decide +kernel
theorem dX6_readDoor_53 : decode cX6_readDoor 53 = .ok (.aload_n 0, 1) := by decide +kernel
theorem dX6_readDoor_54 : decode cX6_readDoor 54 = .ok (.iconst 0, 1) := by decide +kernel
theorem dX6_readDoor_55 : decode cX6_readDoor 55 = .ok (.aload_n 0, 1) := by decide +kernel
theorem dX6_readDoor_56 : decode cX6_readDoor 56 = .ok (.getfield 15, 3) := by decide +kernel
theorem dX6_readDoor_59 : decode cX6_readDoor 59 = .ok (.getfield 99, 3) := by decide +kernel
theorem dX6_readDoor_62 : decode cX6_readDoor 62 = .ok (.iconst 1, 1) := by decide +kernel
theorem dX6_readDoor_63 : decode cX6_readDoor 63 = .ok (.isub, 1) := by decide +kernel
theorem dX6_readDoor_64 : decode cX6_readDoor 64 = .ok (.invokevirtual 96, 3) := by decide +kernel
theorem dX6_readDoor_67 : decode cX6_readDoor 67 = .ok (.istore_n 2, 1) := by decide +kernel
theorem dX6_readDoor_68 : decode cX6_readDoor 68 = .ok (.aload_n 0, 1) := by decide +kernel
theorem dX6_readDoor_69 : decode cX6_readDoor 69 = .ok (.ldc 130, 2) := by decide +kernel
theorem dX6_readDoor_71 : decode cX6_readDoor 71 = .ok (.invokevirtual 90, 3) := by decide +kernel
theorem dX6_readDoor_74 : decode cX6_readDoor 74 = .ok (.aload_n 0, 1) := by decide +kernel
theorem dX6_readDoor_75 : decode cX6_readDoor 75 = .ok (.iconst 1, 1) := by decide +kernel
theorem dX6_readDoor_76 : decode cX6_readDoor 76 = .ok (.bipush 9, 2) := by decide +kernel
theorem dX6_readDoor_78 : decode cX6_readDoor 78 = .ok (.invokevirtual 96, 3) := by decide +kernel
theorem dX6_readDoor_81 : decode cX6_readDoor 81 = .ok (.istore_n 3, 1) := by decide +kernel
theorem dX6_readDoor_82 : decode cX6_readDoor 82 = .ok (.aload_n 0, 1) := by decide +kernel
theorem dX6_readDoor_83 : decode cX6_readDoor 83 = .ok (.invokevirtual 113, 3) := by decide +kernel
theorem dX6_readDoor_86 : decode cX6_readDoor 86 = .ok (.aload_n 0, 1) := by decide +kernel
theorem dX6_readDoor_87 : decode cX6_readDoor 87 = .ok (.getfield 40, 3) := by decide +kernel
theorem dX6_readDoor_90 : decode cX6_readDoor 90 = .ok (.ifCond .ne 17, 3) := by decide +kernel
theorem dX6_readDoor_93 : decode cX6_readDoor 93 = .ok (.aload_n 0, 1) := by decide +kernel
theorem dX6_readDoor_94 : decode cX6_readDoor 94 = .ok (.getfield 15, 3) := by decide +kernel
theorem dX6_readDoor_97 : decode cX6_readDoor 97 = .ok (.getfield 116, 3) := by decide +kernel
theorem dX6_readDoor_100 : decode cX6_readDoor 100 = .ok (.iload_n 1, 1) := by decide +kernel
theorem dX6_readDoor_101 : decode cX6_readDoor 101 = .ok (.iload_n 2, 1) := by decide +kernel
theorem dX6_readDoor_102 : decode cX6_readDoor 102 = .ok (.iload_n 3, 1) := by decide +kernel
theorem dX6_readDoor_103 : decode cX6_readDoor 103 = .ok (.iconst 0, 1) := by decide +kernel
theorem dX6_readDoor_104 : decode cX6_readDoor 104 = .ok (.invokevirtual 132, 3) := by decide +kernel
theorem dX6_readDoor_107 : decode cX6_readDoor 107 = .ok (.return_, 1) := by decide +kernel
theorem dX6_readLady_0 : decode cX6_readLady 0 = .ok (.aload_n 0, 1) := by decide +kernel
theorem dX6_readLady_1 : decode cX6_readLady 1 = .ok (.aload_n 0, 1) := by decide +kernel
theorem dX6_readLady_2 : decode cX6_readLady 2 = .ok (.getfield 15, 3) := by decide +kernel
theorem dX6_readLady_5 : decode cX6_readLady 5 = .ok (.getfield 138, 3) := by decide +kernel
theorem dX6_readLady_8 : decode cX6_readLady 8 = .ok (.invokevirtual 120, 3) := by decide +kernel
theorem dX6_readLady_11 : decode cX6_readLady 11 = .ok (.aload_n 0, 1) := by decide +kernel
theorem dX6_readLady_12 : decode cX6_readLady 12 = .ok (.ldc 141, 2) := by decide +kernel
theorem dX6_readLady_14 : decode cX6_readLady 14 = .ok (.invokevirtual 90, 3) := by decide +kernel
theorem dX6_readLady_17 : decode cX6_readLady 17 = .ok (.aload_n 0, 1) := by decide +kernel
theorem dX6_readLady_18 : decode cX6_readLady 18 = .ok (.iconst 0, 1) := by decide +kernel
theorem dX6_readLady_19 : decode cX6_readLady 19 = .ok (.aload_n 0, 1) := by decide +kernel
theorem dX6_readLady_20 : decode cX6_readLady 20 = .ok (.getfield 15, 3) := by decide +kernel
theorem dX6_readLady_23 : decode cX6_readLady 23 = .ok (.getfield 99, 3) := by decide +kernel
theorem dX6_readLady_26 : decode cX6_readLady 26 = .ok (.iconst 1, 1) := by decide +kernel
theorem dX6_readLady_27 : decode cX6_readLady 27 = .ok (.isub, 1) := by decide +kernel
theorem dX6_readLady_28 : decode cX6_readLady 28 = .ok (.invokevirtual 96, 3) := by decide +kernel
theorem dX6_readLady_31 : decode cX6_readLady 31 = .ok (.istore_n 1, 1) := by decide +kernel
theorem dX6_readLady_32 : decode cX6_readLady 32 = .ok (.aload_n 0, 1) := by decide +kernel
theorem dX6_readLady_33 : decode cX6_readLady 33 = .ok (.ldc 130, 2) := by decide +kernel
theorem dX6_readLady_35 : decode cX6_readLady 35 = .ok (.invokevirtual 90, 3) := by decide +kernel
theorem dX6_readLady_38 : decode cX6_readLady 38 = .ok (.aload_n 0, 1) := by decide +kernel
theorem dX6_readLady_39 : decode cX6_readLady 39 = .ok (.iconst 1, 1) := by decide +kernel
theorem dX6_readLady_40 : decode cX6_readLady 40 = .ok (.bipush 9, 2) := by decide +kernel
theorem dX6_readLady_42 : decode cX6_readLady 42 = .ok (.invokevirtual 96, 3) := by decide +kernel
theorem dX6_readLady_45 : decode cX6_readLady 45 = .ok (.istore_n 2, 1) := by decide +kernel
theorem dX6_readLady_46 : decode cX6_readLady 46 = .ok (.aload_n 0, 1) := by decide +kernel
theorem dX6_readLady_47 : decode cX6_readLady 47 = .ok (.invokevirtual 113, 3) := by decide +kernel
theorem dX6_readLady_50 : decode cX6_readLady 50 = .ok (.aload_n 0, 1) := by decide +kernel
theorem dX6_readLady_51 : decode cX6_readLady 51 = .ok (.getfield 40, 3) := by decide +kernel
theorem dX6_readLady_54 : decode cX6_readLady 54 = .ok (.ifCond .ne 17, 3) := by decide +kernel
theorem dX6_readLady_57 : decode cX6_readLady 57 = .ok (.aload_n 0, 1) := by decide +kernel
theorem dX6_readLady_58 : decode cX6_readLady 58 = .ok (.getfield 15, 3) := by decide +kernel
theorem dX6_readLady_61 : decode cX6_readLady 61 = .ok (.getfield 138, 3) := by decide +kernel
theorem dX6_readLady_64 : decode cX6_readLady 64 = .ok (.iload_n 1, 1) := by decide +kernel
theorem dX6_readLady_65 : decode cX6_readLady 65 = .ok (.iload_n 2, 1) := by decide +kernel
theorem dX6_readLady_66 : decode cX6_readLady 66 = .ok (.iconst 0, 1) := by decide +kernel
theorem dX6_readLady_67 : decode cX6_readLady 67 = .ok (.iconst 0, 1) := by decide +kernel
theorem dX6_readLady_68 : decode cX6_readLady 68 = .ok (.invokevirtual 132, 3) := by decide +kernel
theorem dX6_readLady_71 : decode cX6_readLady 71 = .ok (.return_, 1) := by decide +kernel
theorem dX6_readMinister_0 : decode cX6_readMinister 0 = .ok (.aload_n 0, 1) := by decide +kernel
theorem dX6_readMinister_1 : decode cX6_readMinister 1 = .ok (.aload_n 0, 1) := by decide +kernel
theorem dX6_readMinister_2 : decode cX6_readMinister 2 = .ok (.getfield 15, 3) := by decide +kernel
theorem dX6_readMinister_5 : decode cX6_readMinister 5 = .ok (.getfield 143, 3) := by decide +kernel
theorem dX6_readMinister_8 : decode cX6_readMinister 8 = .ok (.invokevirtual 120, 3) := by decide +kernel
theorem dX6_readMinister_11 : decode cX6_readMinister 11 = .ok (.aload_n 0, 1) := by decide +kernel
theorem dX6_readMinister_12 : decode cX6_readMinister 12 = .ok (.ldc 146, 2) := by decide +kernel
theorem dX6_readMinister_14 : decode cX6_readMinister 14 = .ok (.invokevirtual 90, 3) := by decide +kernel
theorem dX6_readMinister_17 : decode cX6_readMinister 17 = .ok (.aload_n 0, 1) := by decide +kernel
theorem dX6_readMinister_18 : decode cX6_readMinister 18 = .ok (.iconst 0, 1) := by decide +kernel
theorem dX6_readMinister_19 : decode cX6_readMinister 19 = .ok (.aload_n 0, 1) := by decide +kernel
theorem dX6_readMinister_20 : decode cX6_readMinister 20 = .ok (.getfield 15, 3) := by decide +kernel
theorem dX6_readMinister_23 : decode cX6_readMinister 23 = .ok (.getfield 138, 3) := by decide +kernel
theorem dX6_readMinister_26 : decode cX6_readMinister 26 = .ok (.getfield 148, 3) := by decide +kernel
theorem dX6_readMinister_29 : decode cX6_readMinister 29 = .ok (.iconst 1, 1) := by decide +kernel
theorem dX6_readMinister_30 : decode cX6_readMinister 30 = .ok (.isub, 1) := by decide +kernel
theorem dX6_readMinister_31 : decode cX6_readMinister 31 = .ok (.invokevirtual 96, 3) := by decide +kernel
theorem dX6_readMinister_34 : decode cX6_readMinister 34 = .ok (.istore_n 1, 1) := by decide +kernel
theorem dX6_readMinister_35 : decode cX6_readMinister 35 = .ok (.aload_n 0, 1) := by decide +kernel
theorem dX6_readMinister_36 : decode cX6_readMinister 36 = .ok (.ldc 151, 2) := by decide +kernel
theorem dX6_readMinister_38 : decode cX6_readMinister 38 = .ok (.invokevirtual 90, 3) := by decide +kernel
theorem dX6_readMinister_41 : decode cX6_readMinister 41 = .ok (.aload_n 0, 1) := by decide +kernel
theorem dX6_readMinister_42 : decode cX6_readMinister 42 = .ok (.iconst 1, 1) := by decide +kernel
theorem dX6_readMinister_43 : decode cX6_readMinister 43 = .ok (.bipush 20, 2) := by decide +kernel
theorem dX6_readMinister_45 : decode cX6_readMinister 45 = .ok (.invokevirtual 96, 3) := by decide +kernel
theorem dX6_readMinister_48 : decode cX6_readMinister 48 = .ok (.istore_n 2, 1) := by decide +kernel
theorem dX6_readMinister_49 : decode cX6_readMinister 49 = .ok (.aload_n 0, 1) := by decide +kernel
theorem dX6_readMinister_50 : decode cX6_readMinister 50 = .ok (.invokevirtual 113, 3) := by decide +kernel
theorem dX6_readMinister_53 : decode cX6_readMinister 53 = .ok (.aload_n 0, 1) := by decide +kernel
theorem dX6_readMinister_54 : decode cX6_readMinister 54 = .ok (.getfield 40, 3) := by decide +kernel
theorem dX6_readMinister_57 : decode cX6_readMinister 57 = .ok (.ifCond .ne 17, 3) := by decide +kernel
theorem dX6_readMinister_60 : decode cX6_readMinister 60 = .ok (.aload_n 0, 1) := by decide +kernel
theorem dX6_readMinister_61 : decode cX6_readMinister 61 = .ok (.getfield 15, 3) := by decide +kernel
theorem dX6_readMinister_64 : decode cX6_readMinister 64 = .ok (.getfield 143, 3) := by decide +kernel
theorem dX6_readMinister_67 : decode cX6_readMinister 67 = .ok (.iload_n 1, 1) := by decide +kernel
theorem dX6_readMinister_68 : decode cX6_readMinister 68 = .ok (.iload_n 2, 1) := by decide +kernel
theorem dX6_readMinister_69 : decode cX6_readMinister 69 = .ok (.iconst 0, 1) := by decide +kernel
theorem dX6_readMinister_70 : decode cX6_readMinister 70 = .ok (.iconst 0, 1) := by decide +kernel
theorem dX6_readMinister_71 : decode cX6_readMinister 71 = .ok (.invokevirtual 132, 3) := by decide +kernel
theorem dX6_readMinister_74 : decode cX6_readMinister 74 = .ok (.return_, 1) := by decide +kernel
theorem dX6_readBid_0 : decode cX6_readBid 0 = .ok (.aload_n 0, 1) := by decide +kernel
theorem dX6_readBid_1 : decode cX6_readBid 1 = .ok (.aload_n 0, 1) := by decide +kernel
theorem dX6_readBid_2 : decode cX6_readBid 2 = .ok (.getfield 15, 3) := by decide +kernel
theorem dX6_readBid_5 : decode cX6_readBid 5 = .ok (.getfield 153, 3) := by decide +kernel
theorem dX6_readBid_8 : decode cX6_readBid 8 = .ok (.invokevirtual 120, 3) := by decide +kernel
theorem dX6_readBid_11 : decode cX6_readBid 11 = .ok (.aload_n 0, 1) := by decide +kernel
theorem dX6_readBid_12 : decode cX6_readBid 12 = .ok (.iconst 0, 1) := by decide +kernel
theorem dX6_readBid_13 : decode cX6_readBid 13 = .ok (.aload_n 0, 1) := by decide +kernel
theorem dX6_readBid_14 : decode cX6_readBid 14 = .ok (.getfield 15, 3) := by decide +kernel
theorem dX6_readBid_17 : decode cX6_readBid 17 = .ok (.getfield 138, 3) := by decide +kernel
theorem dX6_readBid_20 : decode cX6_readBid 20 = .ok (.getfield 148, 3) := by decide +kernel
theorem dX6_readBid_23 : decode cX6_readBid 23 = .ok (.iconst 1, 1) := by decide +kernel
theorem dX6_readBid_24 : decode cX6_readBid 24 = .ok (.isub, 1) := by decide +kernel
theorem dX6_readBid_25 : decode cX6_readBid 25 = .ok (.invokevirtual 96, 3) := by decide +kernel
theorem dX6_readBid_28 : decode cX6_readBid 28 = .ok (.istore_n 1, 1) := by decide +kernel
theorem dX6_readBid_29 : decode cX6_readBid 29 = .ok (.aload_n 0, 1) := by decide +kernel
theorem dX6_readBid_30 : decode cX6_readBid 30 = .ok (.ldc 124, 2) := by decide +kernel
theorem dX6_readBid_32 : decode cX6_readBid 32 = .ok (.invokevirtual 90, 3) := by decide +kernel
theorem dX6_readBid_35 : decode cX6_readBid 35 = .ok (.aload_n 0, 1) := by decide +kernel
theorem dX6_readBid_36 : decode cX6_readBid 36 = .ok (.iconst 0, 1) := by decide +kernel
theorem dX6_readBid_37 : decode cX6_readBid 37 = .ok (.aload_n 0, 1) := by decide +kernel
theorem dX6_readBid_38 : decode cX6_readBid 38 = .ok (.getfield 15, 3) := by decide +kernel
theorem dX6_readBid_41 : decode cX6_readBid 41 = .ok (.getfield 99, 3) := by decide +kernel
theorem dX6_readBid_44 : decode cX6_readBid 44 = .ok (.iconst 1, 1) := by decide +kernel
theorem dX6_readBid_45 : decode cX6_readBid 45 = .ok (.isub, 1) := by decide +kernel
theorem dX6_readBid_46 : decode cX6_readBid 46 = .ok (.invokevirtual 96, 3) := by decide +kernel
theorem dX6_readBid_49 : decode cX6_readBid 49 = .ok (.istore_n 2, 1) := by decide +kernel
theorem dX6_readBid_50 : decode cX6_readBid 50 = .ok (.aload_n 0, 1) := by decide +kernel
theorem dX6_readBid_51 : decode cX6_readBid 51 = .ok (.ldc 156, 2) := by decide +kernel
theorem dX6_readBid_53 : decode cX6_readBid 53 = .ok (.invokevirtual 90, 3) := by decide +kernel
theorem dX6_readBid_56 : decode cX6_readBid 56 = .ok (.aload_n 0, 1) := by decide +kernel
theorem dX6_readBid_57 : decode cX6_readBid 57 = .ok (.iconst 0, 1) := by decide +kernel
theorem dX6_readBid_58 : decode cX6_readBid 58 = .ok (.bipush 13, 2) := by decide +kernel
theorem dX6_readBid_60 : decode cX6_readBid 60 = .ok (.invokevirtual 96, 3) := by decide +kernel
theorem dX6_readBid_63 : decode cX6_readBid 63 = .ok (.istore_n 3, 1) := by decide +kernel
theorem dX6_readBid_64 : decode cX6_readBid 64 = .ok (.aload_n 0, 1) := by decide +kernel
theorem dX6_readBid_65 : decode cX6_readBid 65 = .ok (.invokevirtual 113, 3) := by decide +kernel
theorem dX6_readBid_68 : decode cX6_readBid 68 = .ok (.aload_n 0, 1) := by decide +kernel
theorem dX6_readBid_69 : decode cX6_readBid 69 = .ok (.getfield 40, 3) := by decide +kernel
theorem dX6_readBid_72 : decode cX6_readBid 72 = .ok (.ifCond .ne 17, 3) := by decide +kernel
theorem dX6_readBid_75 : decode cX6_readBid 75 = .ok (.aload_n 0, 1) := by decide +kernel
theorem dX6_readBid_76 : decode cX6_readBid 76 = .ok (.getfield 15, 3) := by decide +kernel
theorem dX6_readBid_79 : decode cX6_readBid 79 = .ok (.getfield 153, 3) := by decide +kernel
theorem dX6_readBid_82 : decode cX6_readBid 82 = .ok (.iload_n 1, 1) := by decide +kernel
theorem dX6_readBid_83 : decode cX6_readBid 83 = .ok (.iload_n 2, 1) := by decide +kernel
theorem dX6_readBid_84 : decode cX6_readBid 84 = .ok (.iload_n 3, 1) := by decide +kernel
theorem dX6_readBid_85 : decode cX6_readBid 85 = .ok (.iconst 0, 1) := by decide +kernel
theorem dX6_readBid_86 : decode cX6_readBid 86 = .ok (.invokevirtual 132, 3) := by decide +kernel
theorem dX6_readBid_89 : decode cX6_readBid 89 = .ok (.return_, 1) := by decide +kernel
theorem dX6_startRow_0 : decode cX6_startRow 0 = .ok (.aload_n 1, 1) := by decide +kernel
theorem dX6_startRow_1 : decode cX6_startRow 1 = .ok (.invokevirtual 158, 3) := by decide +kernel
theorem dX6_startRow_4 : decode cX6_startRow 4 = .ok (.ifCond .eq 8, 3) := by decide +kernel
theorem dX6_startRow_7 : decode cX6_startRow 7 = .ok (.aload_n 0, 1) := by decide +kernel
theorem dX6_startRow_8 : decode cX6_startRow 8 = .ok (.iconst 3, 1) := by decide +kernel
theorem dX6_startRow_9 : decode cX6_startRow 9 = .ok (.invokevirtual 85, 3) := by decide +kernel
theorem dX6_startRow_12 : decode cX6_startRow 12 = .ok (.aload_n 0, 1) := by decide +kernel
theorem dX6_startRow_13 : decode cX6_startRow 13 = .ok (.invokevirtual 46, 3) := by decide +kernel
theorem dX6_startRow_16 : decode cX6_startRow 16 = .ok (.return_, 1) := by decide +kernel
theorem dX6_fail_0 : decode cX6_fail 0 = .ok (.aload_n 0, 1) := by decide +kernel
theorem dX6_fail_1 : decode cX6_fail 1 = .ok (.getfield 40, 3) := by decide +kernel
theorem dX6_fail_4 : decode cX6_fail 4 = .ok (.ifCond .ne 16, 3) := by decide +kernel
theorem dX6_fail_7 : decode cX6_fail 7 = .ok (.aload_n 0, 1) := by decide +kernel
theorem dX6_fail_8 : decode cX6_fail 8 = .ok (.iload_n 1, 1) := by decide +kernel
theorem dX6_fail_9 : decode cX6_fail 9 = .ok (.putfield 40, 3) := by decide +kernel
theorem dX6_fail_12 : decode cX6_fail 12 = .ok (.aload_n 0, 1) := by decide +kernel
theorem dX6_fail_13 : decode cX6_fail 13 = .ok (.aload_n 0, 1) := by decide +kernel
theorem dX6_fail_14 : decode cX6_fail 14 = .ok (.getfield 162, 3) := by decide +kernel
theorem dX6_fail_17 : decode cX6_fail 17 = .ok (.putfield 19, 3) := by decide +kernel
theorem dX6_fail_20 : decode cX6_fail 20 = .ok (.return_, 1) := by decide +kernel
theorem dX6_takeWord_0 : decode cX6_takeWord 0 = .ok (.aload_n 0, 1) := by decide +kernel
theorem dX6_takeWord_1 : decode cX6_takeWord 1 = .ok (.aload_n 1, 1) := by decide +kernel
theorem dX6_takeWord_2 : decode cX6_takeWord 2 = .ok (.invokevirtual 63, 3) := by decide +kernel
theorem dX6_takeWord_5 : decode cX6_takeWord 5 = .ok (.ifCond .ne 8, 3) := by decide +kernel
theorem dX6_takeWord_8 : decode cX6_takeWord 8 = .ok (.aload_n 0, 1) := by decide +kernel
theorem dX6_takeWord_9 : decode cX6_takeWord 9 = .ok (.iconst 1, 1) := by decide +kernel
theorem dX6_takeWord_10 : decode cX6_takeWord 10 = .ok (.invokevirtual 85, 3) := by decide +kernel
theorem dX6_takeWord_13 : decode cX6_takeWord 13 = .ok (.aload_n 0, 1) := by decide +kernel
theorem dX6_takeWord_14 : decode cX6_takeWord 14 = .ok (.invokevirtual 46, 3) := by decide +kernel
theorem dX6_takeWord_17 : decode cX6_takeWord 17 = .ok (.return_, 1) := by decide +kernel
theorem dX6_takeSign_0 : decode cX6_takeSign 0 = .ok (.aload_n 0, 1) := by decide +kernel
theorem dX6_takeSign_1 : decode cX6_takeSign 1 = .ok (.getfield 49, 3) := by decide +kernel
theorem dX6_takeSign_4 : decode cX6_takeSign 4 = .ok (.iconst 3, 1) := by decide +kernel
theorem dX6_takeSign_5 : decode cX6_takeSign 5 = .ok (.if_icmp .eq 8, 3) := by decide +kernel
theorem dX6_takeSign_8 : decode cX6_takeSign 8 = .ok (.aload_n 0, 1) := by decide +kernel
theorem dX6_takeSign_9 : decode cX6_takeSign 9 = .ok (.iconst 1, 1) := by decide +kernel
theorem dX6_takeSign_10 : decode cX6_takeSign 10 = .ok (.invokevirtual 85, 3) := by decide +kernel
theorem dX6_takeSign_13 : decode cX6_takeSign 13 = .ok (.aload_n 0, 1) := by decide +kernel
theorem dX6_takeSign_14 : decode cX6_takeSign 14 = .ok (.invokevirtual 46, 3) := by decide +kernel
theorem dX6_takeSign_17 : decode cX6_takeSign 17 = .ok (.return_, 1) := by decide +kernel
theorem dX6_takeNumber_0 : decode cX6_takeNumber 0 = .ok (.aload_n 0, 1) := by decide +kernel
theorem dX6_takeNumber_1 : decode cX6_takeNumber 1 = .ok (.invokevirtual 126, 3) := by decide +kernel
theorem dX6_takeNumber_4 : decode cX6_takeNumber 4 = .ok (.istore_n 3, 1) := by decide +kernel
theorem dX6_takeNumber_5 : decode cX6_takeNumber 5 = .ok (.aload_n 0, 1) := by decide +kernel
theorem dX6_takeNumber_6 : decode cX6_takeNumber 6 = .ok (.getfield 49, 3) := by decide +kernel
theorem dX6_takeNumber_9 : decode cX6_takeNumber 9 = .ok (.iconst 2, 1) := by decide +kernel
theorem dX6_takeNumber_10 : decode cX6_takeNumber 10 = .ok (.if_icmp .eq 11, 3) := by decide +kernel
theorem dX6_takeNumber_13 : decode cX6_takeNumber 13 = .ok (.aload_n 0, 1) := by decide +kernel
theorem dX6_takeNumber_14 : decode cX6_takeNumber 14 = .ok (.iconst 1, 1) := by decide +kernel
theorem dX6_takeNumber_15 : decode cX6_takeNumber 15 = .ok (.invokevirtual 85, 3) := by decide +kernel
theorem dX6_takeNumber_18 : decode cX6_takeNumber 18 = .ok (.goto 18, 3) := by decide +kernel
theorem dX6_takeNumber_21 : decode cX6_takeNumber 21 = .ok (.iload_n 3, 1) := by decide +kernel
theorem dX6_takeNumber_22 : decode cX6_takeNumber 22 = .ok (.iload_n 1, 1) := by decide +kernel
theorem dX6_takeNumber_23 : decode cX6_takeNumber 23 = .ok (.if_icmp .lt 8, 3) := by decide +kernel
theorem dX6_takeNumber_26 : decode cX6_takeNumber 26 = .ok (.iload_n 3, 1) := by decide +kernel
theorem dX6_takeNumber_27 : decode cX6_takeNumber 27 = .ok (.iload_n 2, 1) := by decide +kernel
theorem dX6_takeNumber_28 : decode cX6_takeNumber 28 = .ok (.if_icmp .le 8, 3) := by decide +kernel
theorem dX6_takeNumber_31 : decode cX6_takeNumber 31 = .ok (.aload_n 0, 1) := by decide +kernel
theorem dX6_takeNumber_32 : decode cX6_takeNumber 32 = .ok (.iconst 2, 1) := by decide +kernel
theorem dX6_takeNumber_33 : decode cX6_takeNumber 33 = .ok (.invokevirtual 85, 3) := by decide +kernel
theorem dX6_takeNumber_36 : decode cX6_takeNumber 36 = .ok (.aload_n 0, 1) := by decide +kernel
theorem dX6_takeNumber_37 : decode cX6_takeNumber 37 = .ok (.invokevirtual 46, 3) := by decide +kernel
theorem dX6_takeNumber_40 : decode cX6_takeNumber 40 = .ok (.iload_n 3, 1) := by decide +kernel
theorem dX6_takeNumber_41 : decode cX6_takeNumber 41 = .ok (.ireturn, 1) := by decide +kernel
theorem dX6_isWord_0 : decode cX6_isWord 0 = .ok (.aload_n 0, 1) := by decide +kernel
theorem dX6_isWord_1 : decode cX6_isWord 1 = .ok (.getfield 49, 3) := by decide +kernel
theorem dX6_isWord_4 : decode cX6_isWord 4 = .ok (.iconst 1, 1) := by decide +kernel
theorem dX6_isWord_5 : decode cX6_isWord 5 = .ok (.if_icmp .ne 19, 3) := by decide +kernel
theorem dX6_isWord_8 : decode cX6_isWord 8 = .ok (.aload_n 0, 1) := by decide +kernel
theorem dX6_isWord_9 : decode cX6_isWord 9 = .ok (.getfield 43, 3) := by decide +kernel
theorem dX6_isWord_12 : decode cX6_isWord 12 = .ok (.aload_n 0, 1) := by decide +kernel
theorem dX6_isWord_13 : decode cX6_isWord 13 = .ok (.getfield 162, 3) := by decide +kernel
theorem dX6_isWord_16 : decode cX6_isWord 16 = .ok (.isub, 1) := by decide +kernel
theorem dX6_isWord_17 : decode cX6_isWord 17 = .ok (.aload_n 1, 1) := by decide +kernel
theorem dX6_isWord_18 : decode cX6_isWord 18 = .ok (.invokevirtual 165, 3) := by decide +kernel
theorem dX6_isWord_21 : decode cX6_isWord 21 = .ok (.if_icmp .eq 5, 3) := by decide +kernel
theorem dX6_isWord_24 : decode cX6_isWord 24 = .ok (.iconst 0, 1) := by decide +kernel
theorem dX6_isWord_25 : decode cX6_isWord 25 = .ok (.ireturn, 1) := by decide +kernel
theorem dX6_isWord_26 : decode cX6_isWord 26 = .ok (.iconst 0, 1) := by decide +kernel
theorem dX6_isWord_27 : decode cX6_isWord 27 = .ok (.istore_n 2, 1) := by decide +kernel
theorem dX6_isWord_28 : decode cX6_isWord 28 = .ok (.iload_n 2, 1) := by decide +kernel
theorem dX6_isWord_29 : decode cX6_isWord 29 = .ok (.aload_n 1, 1) := by decide +kernel
theorem dX6_isWord_30 : decode cX6_isWord 30 = .ok (.invokevirtual 165, 3) := by decide +kernel
theorem dX6_isWord_33 : decode cX6_isWord 33 = .ok (.if_icmp .ge 29, 3) := by decide +kernel
theorem dX6_isWord_36 : decode cX6_isWord 36 = .ok (.aload_n 0, 1) := by decide +kernel
theorem dX6_isWord_37 : decode cX6_isWord 37 = .ok (.aload_n 0, 1) := by decide +kernel
theorem dX6_isWord_38 : decode cX6_isWord 38 = .ok (.getfield 162, 3) := by decide +kernel
theorem dX6_isWord_41 : decode cX6_isWord 41 = .ok (.iload_n 2, 1) := by decide +kernel
theorem dX6_isWord_42 : decode cX6_isWord 42 = .ok (.iadd, 1) := by decide +kernel
theorem dX6_isWord_43 : decode cX6_isWord 43 = .ok (.invokevirtual 169, 3) := by decide +kernel
theorem dX6_isWord_46 : decode cX6_isWord 46 = .ok (.aload_n 1, 1) := by decide +kernel
theorem dX6_isWord_47 : decode cX6_isWord 47 = .ok (.iload_n 2, 1) := by decide +kernel
theorem dX6_isWord_48 : decode cX6_isWord 48 = .ok (.invokevirtual 173, 3) := by decide +kernel
theorem dX6_isWord_51 : decode cX6_isWord 51 = .ok (.if_icmp .eq 5, 3) := by decide +kernel
theorem dX6_isWord_54 : decode cX6_isWord 54 = .ok (.iconst 0, 1) := by decide +kernel
theorem dX6_isWord_55 : decode cX6_isWord 55 = .ok (.ireturn, 1) := by decide +kernel
theorem dX6_isWord_56 : decode cX6_isWord 56 = .ok (.iinc 2 1, 3) := by decide +kernel
theorem dX6_isWord_59 : decode cX6_isWord 59 = .ok (.goto (-31), 3) := by decide +kernel
theorem dX6_isWord_62 : decode cX6_isWord 62 = .ok (.iconst 1, 1) := by decide +kernel
theorem dX6_isWord_63 : decode cX6_isWord 63 = .ok (.ireturn, 1) := by decide +kernel
theorem dX6_nextToken_0 : decode cX6_nextToken 0 = .ok (.aload_n 0, 1) := by decide +kernel
theorem dX6_nextToken_1 : decode cX6_nextToken 1 = .ok (.getfield 43, 3) := by decide +kernel
theorem dX6_nextToken_4 : decode cX6_nextToken 4 = .ok (.istore_n 1, 1) := by decide +kernel
theorem dX6_nextToken_5 : decode cX6_nextToken 5 = .ok (.iload_n 1, 1) := by decide +kernel
theorem dX6_nextToken_6 : decode cX6_nextToken 6 = .ok (.aload_n 0, 1) := by decide +kernel
theorem dX6_nextToken_7 : decode cX6_nextToken 7 = .ok (.getfield 32, 3) := by decide +kernel
theorem dX6_nextToken_10 : decode cX6_nextToken 10 = .ok (.if_icmp .ge 20, 3) := by decide +kernel
theorem dX6_nextToken_13 : decode cX6_nextToken 13 = .ok (.aload_n 0, 1) := by decide +kernel
theorem dX6_nextToken_14 : decode cX6_nextToken 14 = .ok (.iload_n 1, 1) := by decide +kernel
theorem dX6_nextToken_15 : decode cX6_nextToken 15 = .ok (.invokevirtual 169, 3) := by decide +kernel
theorem dX6_nextToken_18 : decode cX6_nextToken 18 = .ok (.invokestatic 177, 3) := by decide +kernel
theorem dX6_nextToken_21 : decode cX6_nextToken 21 = .ok (.ifCond .eq 9, 3) := by decide +kernel
theorem dX6_nextToken_24 : decode cX6_nextToken 24 = .ok (.iinc 1 1, 3) := by decide +kernel
theorem dX6_nextToken_27 : decode cX6_nextToken 27 = .ok (.goto (-22), 3) := by decide +kernel
theorem dX6_nextToken_30 : decode cX6_nextToken 30 = .ok (.aload_n 0, 1) := by decide +kernel
theorem dX6_nextToken_31 : decode cX6_nextToken 31 = .ok (.iload_n 1, 1) := by decide +kernel
theorem dX6_nextToken_32 : decode cX6_nextToken 32 = .ok (.putfield 162, 3) := by decide +kernel
theorem dX6_nextToken_35 : decode cX6_nextToken 35 = .ok (.aload_n 0, 1) := by decide +kernel
theorem dX6_nextToken_36 : decode cX6_nextToken 36 = .ok (.aload_n 0, 1) := by decide +kernel
theorem dX6_nextToken_37 : decode cX6_nextToken 37 = .ok (.iload_n 1, 1) := by decide +kernel
theorem dX6_nextToken_38 : decode cX6_nextToken 38 = .ok (.invokevirtual 169, 3) := by decide +kernel
theorem dX6_nextToken_41 : decode cX6_nextToken 41 = .ok (.invokestatic 181, 3) := by decide +kernel
theorem dX6_nextToken_44 : decode cX6_nextToken 44 = .ok (.putfield 49, 3) := by decide +kernel
theorem dX6_nextToken_47 : decode cX6_nextToken 47 = .ok (.aload_n 0, 1) := by decide +kernel
theorem dX6_nextToken_48 : decode cX6_nextToken 48 = .ok (.getfield 49, 3) := by decide +kernel
theorem dX6_nextToken_51 : decode cX6_nextToken 51 = .ok (.ifCond .ne 9, 3) := by decide +kernel
theorem dX6_nextToken_54 : decode cX6_nextToken 54 = .ok (.aload_n 0, 1) := by decide +kernel
theorem dX6_nextToken_55 : decode cX6_nextToken 55 = .ok (.iload_n 1, 1) := by decide +kernel
theorem dX6_nextToken_56 : decode cX6_nextToken 56 = .ok (.putfield 43, 3) := by decide +kernel
theorem dX6_nextToken_59 : decode cX6_nextToken 59 = .ok (.return_, 1) := by decide +kernel
theorem dX6_nextToken_60 : decode cX6_nextToken 60 = .ok (.iinc 1 1, 3) := by decide +kernel
theorem dX6_nextToken_63 : decode cX6_nextToken 63 = .ok (.iload_n 1, 1) := by decide +kernel
theorem dX6_nextToken_64 : decode cX6_nextToken 64 = .ok (.aload_n 0, 1) := by decide +kernel
theorem dX6_nextToken_65 : decode cX6_nextToken 65 = .ok (.getfield 32, 3) := by decide +kernel
theorem dX6_nextToken_68 : decode cX6_nextToken 68 = .ok (.if_icmp .ge 40, 3) := by decide +kernel
theorem dX6_nextToken_71 : decode cX6_nextToken 71 = .ok (.aload_n 0, 1) := by decide +kernel
theorem dX6_nextToken_72 : decode cX6_nextToken 72 = .ok (.getfield 49, 3) := by decide +kernel
theorem dX6_nextToken_75 : decode cX6_nextToken 75 = .ok (.iconst 1, 1) := by decide +kernel
theorem dX6_nextToken_76 : decode cX6_nextToken 76 = .ok (.if_icmp .eq 11, 3) := by decide +kernel
theorem dX6_nextToken_79 : decode cX6_nextToken 79 = .ok (.aload_n 0, 1) := by decide +kernel
theorem dX6_nextToken_80 : decode cX6_nextToken 80 = .ok (.getfield 49, 3) := by decide +kernel
theorem dX6_nextToken_83 : decode cX6_nextToken 83 = .ok (.iconst 2, 1) := by decide +kernel
theorem dX6_nextToken_84 : decode cX6_nextToken 84 = .ok (.if_icmp .ne 24, 3) := by decide +kernel
theorem dX6_nextToken_87 : decode cX6_nextToken 87 = .ok (.aload_n 0, 1) := by decide +kernel
theorem dX6_nextToken_88 : decode cX6_nextToken 88 = .ok (.iload_n 1, 1) := by decide +kernel
theorem dX6_nextToken_89 : decode cX6_nextToken 89 = .ok (.invokevirtual 169, 3) := by decide +kernel
theorem dX6_nextToken_92 : decode cX6_nextToken 92 = .ok (.invokestatic 181, 3) := by decide +kernel
theorem dX6_nextToken_95 : decode cX6_nextToken 95 = .ok (.aload_n 0, 1) := by decide +kernel
theorem dX6_nextToken_96 : decode cX6_nextToken 96 = .ok (.getfield 49, 3) := by decide +kernel
theorem dX6_nextToken_99 : decode cX6_nextToken 99 = .ok (.if_icmp .ne 9, 3) := by decide +kernel
theorem dX6_nextToken_102 : decode cX6_nextToken 102 = .ok (.iinc 1 1, 3) := by decide +kernel
theorem dX6_nextToken_105 : decode cX6_nextToken 105 = .ok (.goto (-42), 3) := by decide +kernel
theorem dX6_nextToken_108 : decode cX6_nextToken 108 = .ok (.aload_n 0, 1) := by decide +kernel
theorem dX6_nextToken_109 : decode cX6_nextToken 109 = .ok (.iload_n 1, 1) := by decide +kernel
theorem dX6_nextToken_110 : decode cX6_nextToken 110 = .ok (.putfield 43, 3) := by decide +kernel
theorem dX6_nextToken_113 : decode cX6_nextToken 113 = .ok (.return_, 1) := by decide +kernel
theorem dX6_digits_0 : decode cX6_digits 0 = .ok (.iconst 0, 1) := by decide +kernel
theorem dX6_digits_1 : decode cX6_digits 1 = .ok (.istore_n 1, 1) := by decide +kernel
theorem dX6_digits_2 : decode cX6_digits 2 = .ok (.aload_n 0, 1) := by decide +kernel
theorem dX6_digits_3 : decode cX6_digits 3 = .ok (.getfield 162, 3) := by decide +kernel
theorem dX6_digits_6 : decode cX6_digits 6 = .ok (.istore_n 2, 1) := by decide +kernel
theorem dX6_digits_7 : decode cX6_digits 7 = .ok (.iload_n 2, 1) := by decide +kernel
theorem dX6_digits_8 : decode cX6_digits 8 = .ok (.aload_n 0, 1) := by decide +kernel
theorem dX6_digits_9 : decode cX6_digits 9 = .ok (.getfield 43, 3) := by decide +kernel
theorem dX6_digits_12 : decode cX6_digits 12 = .ok (.if_icmp .ge 28, 3) := by decide +kernel
theorem dX6_digits_15 : decode cX6_digits 15 = .ok (.ldc 184, 2) := by decide +kernel
theorem dX6_digits_17 : decode cX6_digits 17 = .ok (.iload_n 1, 1) := by decide +kernel
theorem dX6_digits_18 : decode cX6_digits 18 = .ok (.bipush 10, 2) := by decide +kernel
theorem dX6_digits_20 : decode cX6_digits 20 = .ok (.imul, 1) := by decide +kernel
theorem dX6_digits_21 : decode cX6_digits 21 = .ok (.aload_n 0, 1) := by decide +kernel
theorem dX6_digits_22 : decode cX6_digits 22 = .ok (.iload_n 2, 1) := by decide +kernel
theorem dX6_digits_23 : decode cX6_digits 23 = .ok (.invokevirtual 169, 3) := by decide +kernel
theorem dX6_digits_26 : decode cX6_digits 26 = .ok (.iadd, 1) := by decide +kernel
theorem dX6_digits_27 : decode cX6_digits 27 = .ok (.bipush 48, 2) := by decide +kernel
theorem dX6_digits_29 : decode cX6_digits 29 = .ok (.isub, 1) := by decide +kernel
theorem dX6_digits_30 : decode cX6_digits 30 = .ok (.invokestatic 23, 3) := by decide +kernel
theorem dX6_digits_33 : decode cX6_digits 33 = .ok (.istore_n 1, 1) := by decide +kernel
theorem dX6_digits_34 : decode cX6_digits 34 = .ok (.iinc 2 1, 3) := by decide +kernel
theorem dX6_digits_37 : decode cX6_digits 37 = .ok (.goto (-30), 3) := by decide +kernel
theorem dX6_digits_40 : decode cX6_digits 40 = .ok (.iload_n 1, 1) := by decide +kernel
theorem dX6_digits_41 : decode cX6_digits 41 = .ok (.ireturn, 1) := by decide +kernel
theorem dX6_byteAt_0 : decode cX6_byteAt 0 = .ok (.iload_n 1, 1) := by decide +kernel
theorem dX6_byteAt_1 : decode cX6_byteAt 1 = .ok (.ifCond .lt 33, 3) := by decide +kernel
theorem dX6_byteAt_4 : decode cX6_byteAt 4 = .ok (.iload_n 1, 1) := by decide +kernel
theorem dX6_byteAt_5 : decode cX6_byteAt 5 = .ok (.aload_n 0, 1) := by decide +kernel
theorem dX6_byteAt_6 : decode cX6_byteAt 6 = .ok (.getfield 32, 3) := by decide +kernel
theorem dX6_byteAt_9 : decode cX6_byteAt 9 = .ok (.if_icmp .ge 25, 3) := by decide +kernel
theorem dX6_byteAt_12 : decode cX6_byteAt 12 = .ok (.iload_n 1, 1) := by decide +kernel
theorem dX6_byteAt_13 : decode cX6_byteAt 13 = .ok (.aload_n 0, 1) := by decide +kernel
theorem dX6_byteAt_14 : decode cX6_byteAt 14 = .ok (.getfield 9, 3) := by decide +kernel
theorem dX6_byteAt_17 : decode cX6_byteAt 17 = .ok (.arraylength, 1) := by decide +kernel
theorem dX6_byteAt_18 : decode cX6_byteAt 18 = .ok (.if_icmp .ge 16, 3) := by decide +kernel
theorem dX6_byteAt_21 : decode cX6_byteAt 21 = .ok (.aload_n 0, 1) := by decide +kernel
theorem dX6_byteAt_22 : decode cX6_byteAt 22 = .ok (.getfield 9, 3) := by decide +kernel
theorem dX6_byteAt_25 : decode cX6_byteAt 25 = .ok (.iload_n 1, 1) := by decide +kernel
theorem dX6_byteAt_26 : decode cX6_byteAt 26 = .ok (.baload, 1) := by decide +kernel
theorem dX6_byteAt_27 : decode cX6_byteAt 27 = .ok (.sipush 255, 3) := by decide +kernel
theorem dX6_byteAt_30 : decode cX6_byteAt 30 = .ok (.iand, 1) := by decide +kernel
theorem dX6_byteAt_31 : decode cX6_byteAt 31 = .ok (.goto 4, 3) := by decide +kernel
theorem dX6_byteAt_34 : decode cX6_byteAt 34 = .ok (.iconst (-1), 1) := by decide +kernel
theorem dX6_byteAt_35 : decode cX6_byteAt 35 = .ok (.ireturn, 1) := by decide +kernel
theorem dX6_isBlank_0 : decode cX6_isBlank 0 = .ok (.iload_n 0, 1) := by decide +kernel
theorem dX6_isBlank_1 : decode cX6_isBlank 1 = .ok (.bipush 32, 2) := by decide +kernel
theorem dX6_isBlank_3 : decode cX6_isBlank 3 = .ok (.if_icmp .eq 9, 3) := by decide +kernel
theorem dX6_isBlank_6 : decode cX6_isBlank 6 = .ok (.iload_n 0, 1) := by decide +kernel
theorem dX6_isBlank_7 : decode cX6_isBlank 7 = .ok (.bipush 10, 2) := by decide +kernel
theorem dX6_isBlank_9 : decode cX6_isBlank 9 = .ok (.if_icmp .ne 7, 3) := by decide +kernel
theorem dX6_isBlank_12 : decode cX6_isBlank 12 = .ok (.iconst 1, 1) := by decide +kernel
theorem dX6_isBlank_13 : decode cX6_isBlank 13 = .ok (.goto 4, 3) := by decide +kernel
theorem dX6_isBlank_16 : decode cX6_isBlank 16 = .ok (.iconst 0, 1) := by decide +kernel
theorem dX6_isBlank_17 : decode cX6_isBlank 17 = .ok (.ireturn, 1) := by decide +kernel
theorem dX6_kindOf_0 : decode cX6_kindOf 0 = .ok (.iload_n 0, 1) := by decide +kernel
theorem dX6_kindOf_1 : decode cX6_kindOf 1 = .ok (.iconst (-1), 1) := by decide +kernel
theorem dX6_kindOf_2 : decode cX6_kindOf 2 = .ok (.if_icmp .ne 5, 3) := by decide +kernel
theorem dX6_kindOf_5 : decode cX6_kindOf 5 = .ok (.iconst 0, 1) := by decide +kernel
theorem dX6_kindOf_6 : decode cX6_kindOf 6 = .ok (.ireturn, 1) := by decide +kernel
theorem dX6_kindOf_7 : decode cX6_kindOf 7 = .ok (.iload_n 0, 1) := by decide +kernel
theorem dX6_kindOf_8 : decode cX6_kindOf 8 = .ok (.bipush 97, 2) := by decide +kernel
theorem dX6_kindOf_10 : decode cX6_kindOf 10 = .ok (.if_icmp .lt 11, 3) := by decide +kernel
theorem dX6_kindOf_13 : decode cX6_kindOf 13 = .ok (.iload_n 0, 1) := by decide +kernel
theorem dX6_kindOf_14 : decode cX6_kindOf 14 = .ok (.bipush 122, 2) := by decide +kernel
theorem dX6_kindOf_16 : decode cX6_kindOf 16 = .ok (.if_icmp .gt 5, 3) := by decide +kernel
theorem dX6_kindOf_19 : decode cX6_kindOf 19 = .ok (.iconst 1, 1) := by decide +kernel
theorem dX6_kindOf_20 : decode cX6_kindOf 20 = .ok (.ireturn, 1) := by decide +kernel
theorem dX6_kindOf_21 : decode cX6_kindOf 21 = .ok (.iload_n 0, 1) := by decide +kernel
theorem dX6_kindOf_22 : decode cX6_kindOf 22 = .ok (.bipush 48, 2) := by decide +kernel
theorem dX6_kindOf_24 : decode cX6_kindOf 24 = .ok (.if_icmp .lt 11, 3) := by decide +kernel
theorem dX6_kindOf_27 : decode cX6_kindOf 27 = .ok (.iload_n 0, 1) := by decide +kernel
theorem dX6_kindOf_28 : decode cX6_kindOf 28 = .ok (.bipush 57, 2) := by decide +kernel
theorem dX6_kindOf_30 : decode cX6_kindOf 30 = .ok (.if_icmp .gt 5, 3) := by decide +kernel
theorem dX6_kindOf_33 : decode cX6_kindOf 33 = .ok (.iconst 2, 1) := by decide +kernel
theorem dX6_kindOf_34 : decode cX6_kindOf 34 = .ok (.ireturn, 1) := by decide +kernel
theorem dX6_kindOf_35 : decode cX6_kindOf 35 = .ok (.iload_n 0, 1) := by decide +kernel
theorem dX6_kindOf_36 : decode cX6_kindOf 36 = .ok (.bipush 59, 2) := by decide +kernel
theorem dX6_kindOf_38 : decode cX6_kindOf 38 = .ok (.if_icmp .ne 7, 3) := by decide +kernel
theorem dX6_kindOf_41 : decode cX6_kindOf 41 = .ok (.iconst 3, 1) := by decide +kernel
theorem dX6_kindOf_42 : decode cX6_kindOf 42 = .ok (.goto 4, 3) := by decide +kernel
theorem dX6_kindOf_45 : decode cX6_kindOf 45 = .ok (.iconst 4, 1) := by decide +kernel
theorem dX6_kindOf_46 : decode cX6_kindOf 46 = .ok (.ireturn, 1) := by decide +kernel
theorem dX7_isBare_0 : decode cX7_isBare 0 = .ok (.aload_n 0, 1) := by decide +kernel
theorem dX7_isBare_1 : decode cX7_isBare 1 = .ok (.getfield 15, 3) := by decide +kernel
theorem dX7_isBare_4 : decode cX7_isBare 4 = .ok (.ifCond .ge 7, 3) := by decide +kernel
theorem dX7_isBare_7 : decode cX7_isBare 7 = .ok (.iconst 1, 1) := by decide +kernel
theorem dX7_isBare_8 : decode cX7_isBare 8 = .ok (.goto 4, 3) := by decide +kernel
theorem dX7_isBare_11 : decode cX7_isBare 11 = .ok (.iconst 0, 1) := by decide +kernel
theorem dX7_isBare_12 : decode cX7_isBare 12 = .ok (.ireturn, 1) := by decide +kernel
theorem dX7_start_0 : decode cX7_start 0 = .ok (.aload_n 0, 1) := by decide +kernel
theorem dX7_start_1 : decode cX7_start 1 = .ok (.iload_n 1, 1) := by decide +kernel
theorem dX7_start_2 : decode cX7_start 2 = .ok (.putfield 19, 3) := by decide +kernel
theorem dX7_start_5 : decode cX7_start 5 = .ok (.aload_n 0, 1) := by decide +kernel
theorem dX7_start_6 : decode cX7_start 6 = .ok (.bipush 60, 2) := by decide +kernel
theorem dX7_start_8 : decode cX7_start 8 = .ok (.iload_n 2, 1) := by decide +kernel
theorem dX7_start_9 : decode cX7_start 9 = .ok (.invokestatic 22, 3) := by decide +kernel
theorem dX7_start_12 : decode cX7_start 12 = .ok (.putfield 15, 3) := by decide +kernel
theorem dX7_start_15 : decode cX7_start 15 = .ok (.aload_n 0, 1) := by decide +kernel
theorem dX7_start_16 : decode cX7_start 16 = .ok (.getfield 11, 3) := by decide +kernel
theorem dX7_start_19 : decode cX7_start 19 = .ok (.lconst 0, 1) := by decide +kernel
theorem dX7_start_20 : decode cX7_start 20 = .ok (.invokestatic 28, 3) := by decide +kernel
theorem dX7_start_23 : decode cX7_start 23 = .ok (.return_, 1) := by decide +kernel
theorem dX7_cell_0 : decode cX7_cell 0 = .ok (.iload_n 1, 1) := by decide +kernel
theorem dX7_cell_1 : decode cX7_cell 1 = .ok (.ifCond .lt 20, 3) := by decide +kernel
theorem dX7_cell_4 : decode cX7_cell 4 = .ok (.iload_n 1, 1) := by decide +kernel
theorem dX7_cell_5 : decode cX7_cell 5 = .ok (.aload_n 0, 1) := by decide +kernel
theorem dX7_cell_6 : decode cX7_cell 6 = .ok (.getfield 15, 3) := by decide +kernel
theorem dX7_cell_9 : decode cX7_cell 9 = .ok (.if_icmp .ge 12, 3) := by decide +kernel
theorem dX7_cell_12 : decode cX7_cell 12 = .ok (.aload_n 0, 1) := by decide +kernel
theorem dX7_cell_13 : decode cX7_cell 13 = .ok (.getfield 11, 3) := by decide +kernel
theorem dX7_cell_16 : decode cX7_cell 16 = .ok (.iload_n 1, 1) := by decide +kernel
theorem dX7_cell_17 : decode cX7_cell 17 = .ok (.laload, 1) := by decide +kernel
theorem dX7_cell_18 : decode cX7_cell 18 = .ok (.goto 6, 3) := by decide +kernel
theorem dX7_cell_21 : decode cX7_cell 21 = .ok (.ldc2_w 34, 3) := by decide +kernel
theorem dX7_cell_24 : decode cX7_cell 24 = .ok (.lreturn, 1) := by decide +kernel
theorem dX7_put_0 : decode cX7_put 0 = .ok (.iload_n 1, 1) := by decide +kernel
theorem dX7_put_1 : decode cX7_put 1 = .ok (.ifCond .lt 22, 3) := by decide +kernel
theorem dX7_put_4 : decode cX7_put 4 = .ok (.iload_n 1, 1) := by decide +kernel
theorem dX7_put_5 : decode cX7_put 5 = .ok (.aload_n 0, 1) := by decide +kernel
theorem dX7_put_6 : decode cX7_put 6 = .ok (.getfield 15, 3) := by decide +kernel
theorem dX7_put_9 : decode cX7_put 9 = .ok (.if_icmp .ge 14, 3) := by decide +kernel
theorem dX7_put_12 : decode cX7_put 12 = .ok (.aload_n 0, 1) := by decide +kernel
theorem dX7_put_13 : decode cX7_put 13 = .ok (.getfield 11, 3) := by decide +kernel
theorem dX7_put_16 : decode cX7_put 16 = .ok (.iload_n 1, 1) := by decide +kernel
theorem dX7_put_17 : decode cX7_put 17 = .ok (.aload_n 0, 1) := by decide +kernel
theorem dX7_put_18 : decode cX7_put 18 = .ok (.lload_n 2, 1) := by decide +kernel
theorem dX7_put_19 : decode cX7_put 19 = .ok (.invokevirtual 36, 3) := by decide +kernel
theorem dX7_put_22 : decode cX7_put 22 = .ok (.lastore, 1) := by decide +kernel
theorem dX7_put_23 : decode cX7_put 23 = .ok (.return_, 1) := by decide +kernel
theorem dX7_cut_0 : decode cX7_cut 0 = .ok (.aload_n 0, 1) := by decide +kernel
theorem dX7_cut_1 : decode cX7_cut 1 = .ok (.getfield 19, 3) := by decide +kernel
theorem dX7_cut_4 : decode cX7_cut 4 = .ok (.tableswitch 42 0 2 #[28, 33, 38], 28) := by decide +kernel
theorem dX7_cut_32 : decode cX7_cut 32 = .ok (.lload_n 1, 1) := by decide +kernel
theorem dX7_cut_33 : decode cX7_cut 33 = .ok (.l2i, 1) := by decide +kernel
theorem dX7_cut_34 : decode cX7_cut 34 = .ok (.i2b, 1) := by decide +kernel
theorem dX7_cut_35 : decode cX7_cut 35 = .ok (.i2l, 1) := by decide +kernel
theorem dX7_cut_36 : decode cX7_cut 36 = .ok (.lreturn, 1) := by decide +kernel
theorem dX7_cut_37 : decode cX7_cut 37 = .ok (.lload_n 1, 1) := by decide +kernel
theorem dX7_cut_38 : decode cX7_cut 38 = .ok (.l2i, 1) := by decide +kernel
theorem dX7_cut_39 : decode cX7_cut 39 = .ok (.i2s, 1) := by decide +kernel
theorem dX7_cut_40 : decode cX7_cut 40 = .ok (.i2l, 1) := by decide +kernel
theorem dX7_cut_41 : decode cX7_cut 41 = .ok (.lreturn, 1) := by decide +kernel
theorem dX7_cut_42 : decode cX7_cut 42 = .ok (.lload_n 1, 1) := by decide +kernel
theorem dX7_cut_43 : decode cX7_cut 43 = .ok (.l2i, 1) := by decide +kernel
theorem dX7_cut_44 : decode cX7_cut 44 = .ok (.i2l, 1) := by decide +kernel
theorem dX7_cut_45 : decode cX7_cut 45 = .ok (.lreturn, 1) := by decide +kernel
theorem dX7_cut_46 : decode cX7_cut 46 = .ok (.lload_n 1, 1) := by decide +kernel
theorem dX7_cut_47 : decode cX7_cut 47 = .ok (.lreturn, 1) := by decide +kernel
theorem dX7_hasStretch_0 : decode cX7_hasStretch 0 = .ok (.iload_n 1, 1) := by decide +kernel
theorem dX7_hasStretch_1 : decode cX7_hasStretch 1 = .ok (.ifCond .lt 29, 3) := by decide +kernel
theorem dX7_hasStretch_4 : decode cX7_hasStretch 4 = .ok (.iload_n 2, 1) := by decide +kernel
theorem dX7_hasStretch_5 : decode cX7_hasStretch 5 = .ok (.ifCond .lt 25, 3) := by decide +kernel
theorem dX7_hasStretch_8 : decode cX7_hasStretch 8 = .ok (.iload_n 1, 1) := by decide +kernel
theorem dX7_hasStretch_9 : decode cX7_hasStretch 9 = .ok (.aload_n 0, 1) := by decide +kernel
theorem dX7_hasStretch_10 : decode cX7_hasStretch 10 = .ok (.getfield 15, 3) := by decide +kernel
theorem dX7_hasStretch_13 : decode cX7_hasStretch 13 = .ok (.if_icmp .gt 17, 3) := by decide +kernel
theorem dX7_hasStretch_16 : decode cX7_hasStretch 16 = .ok (.iload_n 2, 1) := by decide +kernel
theorem dX7_hasStretch_17 : decode cX7_hasStretch 17 = .ok (.aload_n 0, 1) := by decide +kernel
theorem dX7_hasStretch_18 : decode cX7_hasStretch 18 = .ok (.getfield 15, 3) := by decide +kernel
theorem dX7_hasStretch_21 : decode cX7_hasStretch 21 = .ok (.iload_n 1, 1) := by decide +kernel
theorem dX7_hasStretch_22 : decode cX7_hasStretch 22 = .ok (.isub, 1) := by decide +kernel
theorem dX7_hasStretch_23 : decode cX7_hasStretch 23 = .ok (.if_icmp .gt 7, 3) := by decide +kernel
theorem dX7_hasStretch_26 : decode cX7_hasStretch 26 = .ok (.iconst 1, 1) := by decide +kernel
theorem dX7_hasStretch_27 : decode cX7_hasStretch 27 = .ok (.goto 4, 3) := by decide +kernel
theorem dX7_hasStretch_30 : decode cX7_hasStretch 30 = .ok (.iconst 0, 1) := by decide +kernel
theorem dX7_hasStretch_31 : decode cX7_hasStretch 31 = .ok (.ireturn, 1) := by decide +kernel
theorem dX8_has_0 : decode cX8_has 0 = .ok (.iload_n 1, 1) := by decide +kernel
theorem dX8_has_1 : decode cX8_has 1 = .ok (.ifCond .lt 15, 3) := by decide +kernel
theorem dX8_has_4 : decode cX8_has 4 = .ok (.iload_n 1, 1) := by decide +kernel
theorem dX8_has_5 : decode cX8_has 5 = .ok (.aload_n 0, 1) := by decide +kernel
theorem dX8_has_6 : decode cX8_has 6 = .ok (.getfield 28, 3) := by decide +kernel
theorem dX8_has_9 : decode cX8_has 9 = .ok (.if_icmp .ge 7, 3) := by decide +kernel
theorem dX8_has_12 : decode cX8_has 12 = .ok (.iconst 1, 1) := by decide +kernel
theorem dX8_has_13 : decode cX8_has 13 = .ok (.goto 4, 3) := by decide +kernel
theorem dX8_has_16 : decode cX8_has 16 = .ok (.iconst 0, 1) := by decide +kernel
theorem dX8_has_17 : decode cX8_has 17 = .ok (.ireturn, 1) := by decide +kernel
theorem dX8_hasCell_0 : decode cX8_hasCell 0 = .ok (.iload_n 1, 1) := by decide +kernel
theorem dX8_hasCell_1 : decode cX8_hasCell 1 = .ok (.ifCond .lt 27, 3) := by decide +kernel
theorem dX8_hasCell_4 : decode cX8_hasCell 4 = .ok (.iload_n 1, 1) := by decide +kernel
theorem dX8_hasCell_5 : decode cX8_hasCell 5 = .ok (.aload_n 0, 1) := by decide +kernel
theorem dX8_hasCell_6 : decode cX8_hasCell 6 = .ok (.getfield 28, 3) := by decide +kernel
theorem dX8_hasCell_9 : decode cX8_hasCell 9 = .ok (.if_icmp .ge 19, 3) := by decide +kernel
theorem dX8_hasCell_12 : decode cX8_hasCell 12 = .ok (.iload_n 2, 1) := by decide +kernel
theorem dX8_hasCell_13 : decode cX8_hasCell 13 = .ok (.ifCond .lt 15, 3) := by decide +kernel
theorem dX8_hasCell_16 : decode cX8_hasCell 16 = .ok (.iload_n 2, 1) := by decide +kernel
theorem dX8_hasCell_17 : decode cX8_hasCell 17 = .ok (.aload_n 0, 1) := by decide +kernel
theorem dX8_hasCell_18 : decode cX8_hasCell 18 = .ok (.getfield 21, 3) := by decide +kernel
theorem dX8_hasCell_21 : decode cX8_hasCell 21 = .ok (.if_icmp .ge 7, 3) := by decide +kernel
theorem dX8_hasCell_24 : decode cX8_hasCell 24 = .ok (.iconst 1, 1) := by decide +kernel
theorem dX8_hasCell_25 : decode cX8_hasCell 25 = .ok (.goto 4, 3) := by decide +kernel
theorem dX8_hasCell_28 : decode cX8_hasCell 28 = .ok (.iconst 0, 1) := by decide +kernel
theorem dX8_hasCell_29 : decode cX8_hasCell 29 = .ok (.ireturn, 1) := by decide +kernel
theorem dX8_isFull_0 : decode cX8_isFull 0 = .ok (.aload_n 0, 1) := by decide +kernel
theorem dX8_isFull_1 : decode cX8_isFull 1 = .ok (.getfield 28, 3) := by decide +kernel
theorem dX8_isFull_4 : decode cX8_isFull 4 = .ok (.aload_n 0, 1) := by decide +kernel
theorem dX8_isFull_5 : decode cX8_isFull 5 = .ok (.getfield 15, 3) := by decide +kernel
theorem dX8_isFull_8 : decode cX8_isFull 8 = .ok (.if_icmp .lt 7, 3) := by decide +kernel
theorem dX8_isFull_11 : decode cX8_isFull 11 = .ok (.iconst 1, 1) := by decide +kernel
theorem dX8_isFull_12 : decode cX8_isFull 12 = .ok (.goto 4, 3) := by decide +kernel
theorem dX8_isFull_15 : decode cX8_isFull 15 = .ok (.iconst 0, 1) := by decide +kernel
theorem dX8_isFull_16 : decode cX8_isFull 16 = .ok (.ireturn, 1) := by decide +kernel
theorem dX8_cell_0 : decode cX8_cell 0 = .ok (.aload_n 0, 1) := by decide +kernel
theorem dX8_cell_1 : decode cX8_cell 1 = .ok (.iload_n 1, 1) := by decide +kernel
theorem dX8_cell_2 : decode cX8_cell 2 = .ok (.iload_n 2, 1) := by decide +kernel
theorem dX8_cell_3 : decode cX8_cell 3 = .ok (.invokevirtual 31, 3) := by decide +kernel
theorem dX8_cell_6 : decode cX8_cell 6 = .ok (.ifCond .eq 19, 3) := by decide +kernel
theorem dX8_cell_9 : decode cX8_cell 9 = .ok (.aload_n 0, 1) := by decide +kernel
theorem dX8_cell_10 : decode cX8_cell 10 = .ok (.getfield 24, 3) := by decide +kernel
theorem dX8_cell_13 : decode cX8_cell 13 = .ok (.iload_n 1, 1) := by decide +kernel
theorem dX8_cell_14 : decode cX8_cell 14 = .ok (.aload_n 0, 1) := by decide +kernel
theorem dX8_cell_15 : decode cX8_cell 15 = .ok (.getfield 21, 3) := by decide +kernel
theorem dX8_cell_18 : decode cX8_cell 18 = .ok (.imul, 1) := by decide +kernel
theorem dX8_cell_19 : decode cX8_cell 19 = .ok (.iload_n 2, 1) := by decide +kernel
theorem dX8_cell_20 : decode cX8_cell 20 = .ok (.iadd, 1) := by decide +kernel
theorem dX8_cell_21 : decode cX8_cell 21 = .ok (.iaload, 1) := by decide +kernel
theorem dX8_cell_22 : decode cX8_cell 22 = .ok (.goto 4, 3) := by decide +kernel
theorem dX8_cell_25 : decode cX8_cell 25 = .ok (.iconst (-1), 1) := by decide +kernel
theorem dX8_cell_26 : decode cX8_cell 26 = .ok (.ireturn, 1) := by decide +kernel
theorem dX8_put_0 : decode cX8_put 0 = .ok (.aload_n 0, 1) := by decide +kernel
theorem dX8_put_1 : decode cX8_put 1 = .ok (.iload_n 1, 1) := by decide +kernel
theorem dX8_put_2 : decode cX8_put 2 = .ok (.iload_n 2, 1) := by decide +kernel
theorem dX8_put_3 : decode cX8_put 3 = .ok (.invokevirtual 31, 3) := by decide +kernel
theorem dX8_put_6 : decode cX8_put 6 = .ok (.ifCond .eq 17, 3) := by decide +kernel
theorem dX8_put_9 : decode cX8_put 9 = .ok (.aload_n 0, 1) := by decide +kernel
theorem dX8_put_10 : decode cX8_put 10 = .ok (.getfield 24, 3) := by decide +kernel
theorem dX8_put_13 : decode cX8_put 13 = .ok (.iload_n 1, 1) := by decide +kernel
theorem dX8_put_14 : decode cX8_put 14 = .ok (.aload_n 0, 1) := by decide +kernel
theorem dX8_put_15 : decode cX8_put 15 = .ok (.getfield 21, 3) := by decide +kernel
theorem dX8_put_18 : decode cX8_put 18 = .ok (.imul, 1) := by decide +kernel
theorem dX8_put_19 : decode cX8_put 19 = .ok (.iload_n 2, 1) := by decide +kernel
theorem dX8_put_20 : decode cX8_put 20 = .ok (.iadd, 1) := by decide +kernel
theorem dX8_put_21 : decode cX8_put 21 = .ok (.iload_n 3, 1) := by decide +kernel
theorem dX8_put_22 : decode cX8_put 22 = .ok (.iastore, 1) := by decide +kernel
theorem dX8_put_23 : decode cX8_put 23 = .ok (.return_, 1) := by decide +kernel
