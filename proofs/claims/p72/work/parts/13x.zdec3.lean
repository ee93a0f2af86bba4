theorem dX10_apart_35 : decode cX10_apart 35 = .ok (.aload_n 0, 1) := by decide +kernel
theorem dX10_apart_36 : decode cX10_apart 36 = .ok (.iload_n 1, 1) := by decide +kernel
theorem dX10_apart_37 : decode cX10_apart 37 = .ok (.iload_n 3, 1) := by decide +kernel
theorem dX10_apart_38 : decode cX10_apart 38 = .ok (.invokevirtual 255, 3) := by decide +kernel
theorem dX10_apart_41 : decode cX10_apart 41 = .ok (.aload_n 0, 1) := by decide +kernel
theorem dX10_apart_42 : decode cX10_apart 42 = .ok (.iload_n 2, 1) := by decide +kernel
theorem dX10_apart_43 : decode cX10_apart 43 = .ok (.iload_n 3, 1) := by decide +kernel
theorem dX10_apart_44 : decode cX10_apart 44 = .ok (.invokevirtual 255, 3) := by decide +kernel
theorem dX10_apart_47 : decode cX10_apart 47 = .ok (.invokevirtual 233, 3) := by decide +kernel
theorem dX10_apart_50 : decode cX10_apart 50 = .ok (.istore 4, 2) := by decide +kernel
theorem dX10_apart_52 : decode cX10_apart 52 = .ok (.iload 4, 2) := by decide +kernel
theorem dX10_apart_54 : decode cX10_apart 54 = .ok (.ldc 226, 2) := by decide +kernel
theorem dX10_apart_56 : decode cX10_apart 56 = .ok (.if_icmp .lt 7, 3) := by decide +kernel
theorem dX10_apart_59 : decode cX10_apart 59 = .ok (.iconst (-1), 1) := by decide +kernel
theorem dX10_apart_60 : decode cX10_apart 60 = .ok (.goto 5, 3) := by decide +kernel
theorem dX10_apart_63 : decode cX10_apart 63 = .ok (.iload 4, 2) := by decide +kernel
theorem dX10_apart_65 : decode cX10_apart 65 = .ok (.ireturn, 1) := by decide +kernel
theorem dX10_alone_0 : decode cX10_alone 0 = .ok (.aload_n 0, 1) := by decide +kernel
theorem dX10_alone_1 : decode cX10_alone 1 = .ok (.iload_n 1, 1) := by decide +kernel
theorem dX10_alone_2 : decode cX10_alone 2 = .ok (.invokevirtual 294, 3) := by decide +kernel
theorem dX10_alone_5 : decode cX10_alone 5 = .ok (.ifCond .ne 6, 3) := by decide +kernel
theorem dX10_alone_8 : decode cX10_alone 8 = .ok (.bipush (-2), 2) := by decide +kernel
theorem dX10_alone_10 : decode cX10_alone 10 = .ok (.ireturn, 1) := by decide +kernel
theorem dX10_alone_11 : decode cX10_alone 11 = .ok (.iconst 0, 1) := by decide +kernel
theorem dX10_alone_12 : decode cX10_alone 12 = .ok (.istore_n 2, 1) := by decide +kernel
theorem dX10_alone_13 : decode cX10_alone 13 = .ok (.iconst 0, 1) := by decide +kernel
theorem dX10_alone_14 : decode cX10_alone 14 = .ok (.istore_n 3, 1) := by decide +kernel
theorem dX10_alone_15 : decode cX10_alone 15 = .ok (.iload_n 3, 1) := by decide +kernel
theorem dX10_alone_16 : decode cX10_alone 16 = .ok (.aload_n 0, 1) := by decide +kernel
theorem dX10_alone_17 : decode cX10_alone 17 = .ok (.invokevirtual 244, 3) := by decide +kernel
theorem dX10_alone_20 : decode cX10_alone 20 = .ok (.if_icmp .ge 37, 3) := by decide +kernel
theorem dX10_alone_23 : decode cX10_alone 23 = .ok (.iload_n 2, 1) := by decide +kernel
theorem dX10_alone_24 : decode cX10_alone 24 = .ok (.aload_n 0, 1) := by decide +kernel
theorem dX10_alone_25 : decode cX10_alone 25 = .ok (.aload_n 0, 1) := by decide +kernel
theorem dX10_alone_26 : decode cX10_alone 26 = .ok (.iload_n 3, 1) := by decide +kernel
theorem dX10_alone_27 : decode cX10_alone 27 = .ok (.iload_n 1, 1) := by decide +kernel
theorem dX10_alone_28 : decode cX10_alone 28 = .ok (.invokevirtual 255, 3) := by decide +kernel
theorem dX10_alone_31 : decode cX10_alone 31 = .ok (.iload_n 1, 1) := by decide +kernel
theorem dX10_alone_32 : decode cX10_alone 32 = .ok (.invokevirtual 297, 3) := by decide +kernel
theorem dX10_alone_35 : decode cX10_alone 35 = .ok (.invokestatic 319, 3) := by decide +kernel
theorem dX10_alone_38 : decode cX10_alone 38 = .ok (.iconst 1, 1) := by decide +kernel
theorem dX10_alone_39 : decode cX10_alone 39 = .ok (.if_icmp .ne 9, 3) := by decide +kernel
theorem dX10_alone_42 : decode cX10_alone 42 = .ok (.iconst 1, 1) := by decide +kernel
theorem dX10_alone_43 : decode cX10_alone 43 = .ok (.iload_n 3, 1) := by decide +kernel
theorem dX10_alone_44 : decode cX10_alone 44 = .ok (.ishl, 1) := by decide +kernel
theorem dX10_alone_45 : decode cX10_alone 45 = .ok (.goto 4, 3) := by decide +kernel
theorem dX10_alone_48 : decode cX10_alone 48 = .ok (.iconst 0, 1) := by decide +kernel
theorem dX10_alone_49 : decode cX10_alone 49 = .ok (.ior, 1) := by decide +kernel
theorem dX10_alone_50 : decode cX10_alone 50 = .ok (.istore_n 2, 1) := by decide +kernel
theorem dX10_alone_51 : decode cX10_alone 51 = .ok (.iinc 3 1, 3) := by decide +kernel
theorem dX10_alone_54 : decode cX10_alone 54 = .ok (.goto (-39), 3) := by decide +kernel
theorem dX10_alone_57 : decode cX10_alone 57 = .ok (.iload_n 2, 1) := by decide +kernel
theorem dX10_alone_58 : decode cX10_alone 58 = .ok (.ireturn, 1) := by decide +kernel
theorem dX10_empty_0 : decode cX10_empty 0 = .ok (.aload_n 0, 1) := by decide +kernel
theorem dX10_empty_1 : decode cX10_empty 1 = .ok (.iload_n 1, 1) := by decide +kernel
theorem dX10_empty_2 : decode cX10_empty 2 = .ok (.invokevirtual 294, 3) := by decide +kernel
theorem dX10_empty_5 : decode cX10_empty 5 = .ok (.ifCond .ne 6, 3) := by decide +kernel
theorem dX10_empty_8 : decode cX10_empty 8 = .ok (.bipush (-2), 2) := by decide +kernel
theorem dX10_empty_10 : decode cX10_empty 10 = .ok (.ireturn, 1) := by decide +kernel
theorem dX10_empty_11 : decode cX10_empty 11 = .ok (.iconst 0, 1) := by decide +kernel
theorem dX10_empty_12 : decode cX10_empty 12 = .ok (.istore_n 2, 1) := by decide +kernel
theorem dX10_empty_13 : decode cX10_empty 13 = .ok (.iconst 0, 1) := by decide +kernel
theorem dX10_empty_14 : decode cX10_empty 14 = .ok (.istore_n 3, 1) := by decide +kernel
theorem dX10_empty_15 : decode cX10_empty 15 = .ok (.iload_n 3, 1) := by decide +kernel
theorem dX10_empty_16 : decode cX10_empty 16 = .ok (.aload_n 0, 1) := by decide +kernel
theorem dX10_empty_17 : decode cX10_empty 17 = .ok (.getfield 9, 3) := by decide +kernel
theorem dX10_empty_20 : decode cX10_empty 20 = .ok (.iconst 0, 1) := by decide +kernel
theorem dX10_empty_21 : decode cX10_empty 21 = .ok (.iaload, 1) := by decide +kernel
theorem dX10_empty_22 : decode cX10_empty 22 = .ok (.if_icmp .ge 28, 3) := by decide +kernel
theorem dX10_empty_25 : decode cX10_empty 25 = .ok (.iload_n 2, 1) := by decide +kernel
theorem dX10_empty_26 : decode cX10_empty 26 = .ok (.aload_n 0, 1) := by decide +kernel
theorem dX10_empty_27 : decode cX10_empty 27 = .ok (.iload_n 3, 1) := by decide +kernel
theorem dX10_empty_28 : decode cX10_empty 28 = .ok (.iload_n 1, 1) := by decide +kernel
theorem dX10_empty_29 : decode cX10_empty 29 = .ok (.invokevirtual 297, 3) := by decide +kernel
theorem dX10_empty_32 : decode cX10_empty 32 = .ok (.ifCond .ne 9, 3) := by decide +kernel
theorem dX10_empty_35 : decode cX10_empty 35 = .ok (.iconst 1, 1) := by decide +kernel
theorem dX10_empty_36 : decode cX10_empty 36 = .ok (.iload_n 3, 1) := by decide +kernel
theorem dX10_empty_37 : decode cX10_empty 37 = .ok (.ishl, 1) := by decide +kernel
theorem dX10_empty_38 : decode cX10_empty 38 = .ok (.goto 4, 3) := by decide +kernel
theorem dX10_empty_41 : decode cX10_empty 41 = .ok (.iconst 0, 1) := by decide +kernel
theorem dX10_empty_42 : decode cX10_empty 42 = .ok (.ior, 1) := by decide +kernel
theorem dX10_empty_43 : decode cX10_empty 43 = .ok (.istore_n 2, 1) := by decide +kernel
theorem dX10_empty_44 : decode cX10_empty 44 = .ok (.iinc 3 1, 3) := by decide +kernel
theorem dX10_empty_47 : decode cX10_empty 47 = .ok (.goto (-32), 3) := by decide +kernel
theorem dX10_empty_50 : decode cX10_empty 50 = .ok (.iload_n 2, 1) := by decide +kernel
theorem dX10_empty_51 : decode cX10_empty 51 = .ok (.ireturn, 1) := by decide +kernel
theorem dX10_late_0 : decode cX10_late 0 = .ok (.aload_n 0, 1) := by decide +kernel
theorem dX10_late_1 : decode cX10_late 1 = .ok (.iload_n 1, 1) := by decide +kernel
theorem dX10_late_2 : decode cX10_late 2 = .ok (.invokevirtual 288, 3) := by decide +kernel
theorem dX10_late_5 : decode cX10_late 5 = .ok (.ifCond .ne 6, 3) := by decide +kernel
theorem dX10_late_8 : decode cX10_late 8 = .ok (.bipush (-2), 2) := by decide +kernel
theorem dX10_late_10 : decode cX10_late 10 = .ok (.ireturn, 1) := by decide +kernel
theorem dX10_late_11 : decode cX10_late 11 = .ok (.iconst (-1), 1) := by decide +kernel
theorem dX10_late_12 : decode cX10_late 12 = .ok (.istore_n 2, 1) := by decide +kernel
theorem dX10_late_13 : decode cX10_late 13 = .ok (.iconst 1, 1) := by decide +kernel
theorem dX10_late_14 : decode cX10_late 14 = .ok (.istore_n 3, 1) := by decide +kernel
theorem dX10_late_15 : decode cX10_late 15 = .ok (.iload_n 3, 1) := by decide +kernel
theorem dX10_late_16 : decode cX10_late 16 = .ok (.aload_n 0, 1) := by decide +kernel
theorem dX10_late_17 : decode cX10_late 17 = .ok (.invokevirtual 247, 3) := by decide +kernel
theorem dX10_late_20 : decode cX10_late 20 = .ok (.if_icmp .gt 32, 3) := by decide +kernel
theorem dX10_late_23 : decode cX10_late 23 = .ok (.aload_n 0, 1) := by decide +kernel
theorem dX10_late_24 : decode cX10_late 24 = .ok (.iload_n 1, 1) := by decide +kernel
theorem dX10_late_25 : decode cX10_late 25 = .ok (.iload_n 3, 1) := by decide +kernel
theorem dX10_late_26 : decode cX10_late 26 = .ok (.invokevirtual 255, 3) := by decide +kernel
theorem dX10_late_29 : decode cX10_late 29 = .ok (.aload_n 0, 1) := by decide +kernel
theorem dX10_late_30 : decode cX10_late 30 = .ok (.iload_n 1, 1) := by decide +kernel
theorem dX10_late_31 : decode cX10_late 31 = .ok (.iload_n 3, 1) := by decide +kernel
theorem dX10_late_32 : decode cX10_late 32 = .ok (.iconst 1, 1) := by decide +kernel
theorem dX10_late_33 : decode cX10_late 33 = .ok (.isub, 1) := by decide +kernel
theorem dX10_late_34 : decode cX10_late 34 = .ok (.invokevirtual 255, 3) := by decide +kernel
theorem dX10_late_37 : decode cX10_late 37 = .ok (.if_icmp .eq 7, 3) := by decide +kernel
theorem dX10_late_40 : decode cX10_late 40 = .ok (.iload_n 3, 1) := by decide +kernel
theorem dX10_late_41 : decode cX10_late 41 = .ok (.goto 4, 3) := by decide +kernel
theorem dX10_late_44 : decode cX10_late 44 = .ok (.iload_n 2, 1) := by decide +kernel
theorem dX10_late_45 : decode cX10_late 45 = .ok (.istore_n 2, 1) := by decide +kernel
theorem dX10_late_46 : decode cX10_late 46 = .ok (.iinc 3 1, 3) := by decide +kernel
theorem dX10_late_49 : decode cX10_late 49 = .ok (.goto (-34), 3) := by decide +kernel
theorem dX10_late_52 : decode cX10_late 52 = .ok (.iload_n 2, 1) := by decide +kernel
theorem dX10_late_53 : decode cX10_late 53 = .ok (.ireturn, 1) := by decide +kernel
theorem dX10_waits_0 : decode cX10_waits 0 = .ok (.aload_n 0, 1) := by decide +kernel
theorem dX10_waits_1 : decode cX10_waits 1 = .ok (.iload_n 1, 1) := by decide +kernel
theorem dX10_waits_2 : decode cX10_waits 2 = .ok (.invokevirtual 288, 3) := by decide +kernel
theorem dX10_waits_5 : decode cX10_waits 5 = .ok (.ifCond .ne 6, 3) := by decide +kernel
theorem dX10_waits_8 : decode cX10_waits 8 = .ok (.bipush (-2), 2) := by decide +kernel
theorem dX10_waits_10 : decode cX10_waits 10 = .ok (.ireturn, 1) := by decide +kernel
theorem dX10_waits_11 : decode cX10_waits 11 = .ok (.iconst 0, 1) := by decide +kernel
theorem dX10_waits_12 : decode cX10_waits 12 = .ok (.istore_n 2, 1) := by decide +kernel
theorem dX10_waits_13 : decode cX10_waits 13 = .ok (.iconst 0, 1) := by decide +kernel
theorem dX10_waits_14 : decode cX10_waits 14 = .ok (.istore_n 3, 1) := by decide +kernel
theorem dX10_waits_15 : decode cX10_waits 15 = .ok (.iload_n 3, 1) := by decide +kernel
theorem dX10_waits_16 : decode cX10_waits 16 = .ok (.aload_n 0, 1) := by decide +kernel
theorem dX10_waits_17 : decode cX10_waits 17 = .ok (.invokevirtual 247, 3) := by decide +kernel
theorem dX10_waits_20 : decode cX10_waits 20 = .ok (.if_icmp .ge 59, 3) := by decide +kernel
theorem dX10_waits_23 : decode cX10_waits 23 = .ok (.iload_n 2, 1) := by decide +kernel
theorem dX10_waits_24 : decode cX10_waits 24 = .ok (.aload_n 0, 1) := by decide +kernel
theorem dX10_waits_25 : decode cX10_waits 25 = .ok (.iload_n 1, 1) := by decide +kernel
theorem dX10_waits_26 : decode cX10_waits 26 = .ok (.iload_n 3, 1) := by decide +kernel
theorem dX10_waits_27 : decode cX10_waits 27 = .ok (.invokevirtual 258, 3) := by decide +kernel
theorem dX10_waits_30 : decode cX10_waits 30 = .ok (.iconst (-1), 1) := by decide +kernel
theorem dX10_waits_31 : decode cX10_waits 31 = .ok (.if_icmp .eq 39, 3) := by decide +kernel
theorem dX10_waits_34 : decode cX10_waits 34 = .ok (.aload_n 0, 1) := by decide +kernel
theorem dX10_waits_35 : decode cX10_waits 35 = .ok (.iload_n 1, 1) := by decide +kernel
theorem dX10_waits_36 : decode cX10_waits 36 = .ok (.iload_n 3, 1) := by decide +kernel
theorem dX10_waits_37 : decode cX10_waits 37 = .ok (.invokevirtual 258, 3) := by decide +kernel
theorem dX10_waits_40 : decode cX10_waits 40 = .ok (.aload_n 0, 1) := by decide +kernel
theorem dX10_waits_41 : decode cX10_waits 41 = .ok (.iload_n 1, 1) := by decide +kernel
theorem dX10_waits_42 : decode cX10_waits 42 = .ok (.iload_n 3, 1) := by decide +kernel
theorem dX10_waits_43 : decode cX10_waits 43 = .ok (.invokevirtual 255, 3) := by decide +kernel
theorem dX10_waits_46 : decode cX10_waits 46 = .ok (.if_icmp .eq 24, 3) := by decide +kernel
theorem dX10_waits_49 : decode cX10_waits 49 = .ok (.aload_n 0, 1) := by decide +kernel
theorem dX10_waits_50 : decode cX10_waits 50 = .ok (.iload_n 1, 1) := by decide +kernel
theorem dX10_waits_51 : decode cX10_waits 51 = .ok (.iload_n 3, 1) := by decide +kernel
theorem dX10_waits_52 : decode cX10_waits 52 = .ok (.iconst 1, 1) := by decide +kernel
theorem dX10_waits_53 : decode cX10_waits 53 = .ok (.iadd, 1) := by decide +kernel
theorem dX10_waits_54 : decode cX10_waits 54 = .ok (.invokevirtual 255, 3) := by decide +kernel
theorem dX10_waits_57 : decode cX10_waits 57 = .ok (.aload_n 0, 1) := by decide +kernel
theorem dX10_waits_58 : decode cX10_waits 58 = .ok (.iload_n 1, 1) := by decide +kernel
theorem dX10_waits_59 : decode cX10_waits 59 = .ok (.iload_n 3, 1) := by decide +kernel
theorem dX10_waits_60 : decode cX10_waits 60 = .ok (.invokevirtual 255, 3) := by decide +kernel
theorem dX10_waits_63 : decode cX10_waits 63 = .ok (.if_icmp .ne 7, 3) := by decide +kernel
theorem dX10_waits_66 : decode cX10_waits 66 = .ok (.iconst 1, 1) := by decide +kernel
theorem dX10_waits_67 : decode cX10_waits 67 = .ok (.goto 4, 3) := by decide +kernel
theorem dX10_waits_70 : decode cX10_waits 70 = .ok (.iconst 0, 1) := by decide +kernel
theorem dX10_waits_71 : decode cX10_waits 71 = .ok (.iadd, 1) := by decide +kernel
theorem dX10_waits_72 : decode cX10_waits 72 = .ok (.istore_n 2, 1) := by decide +kernel
theorem dX10_waits_73 : decode cX10_waits 73 = .ok (.iinc 3 1, 3) := by decide +kernel
theorem dX10_waits_76 : decode cX10_waits 76 = .ok (.goto (-61), 3) := by decide +kernel
theorem dX10_waits_79 : decode cX10_waits 79 = .ok (.iload_n 2, 1) := by decide +kernel
theorem dX10_waits_80 : decode cX10_waits 80 = .ok (.ireturn, 1) := by decide +kernel
theorem dX10_mate_0 : decode cX10_mate 0 = .ok (.aload_n 0, 1) := by decide +kernel
theorem dX10_mate_1 : decode cX10_mate 1 = .ok (.iload_n 1, 1) := by decide +kernel
theorem dX10_mate_2 : decode cX10_mate 2 = .ok (.invokevirtual 288, 3) := by decide +kernel
theorem dX10_mate_5 : decode cX10_mate 5 = .ok (.ifCond .ne 6, 3) := by decide +kernel
theorem dX10_mate_8 : decode cX10_mate 8 = .ok (.bipush (-2), 2) := by decide +kernel
theorem dX10_mate_10 : decode cX10_mate 10 = .ok (.ireturn, 1) := by decide +kernel
theorem dX10_mate_11 : decode cX10_mate 11 = .ok (.iconst (-1), 1) := by decide +kernel
theorem dX10_mate_12 : decode cX10_mate 12 = .ok (.istore_n 2, 1) := by decide +kernel
theorem dX10_mate_13 : decode cX10_mate 13 = .ok (.iconst 0, 1) := by decide +kernel
theorem dX10_mate_14 : decode cX10_mate 14 = .ok (.istore_n 3, 1) := by decide +kernel
theorem dX10_mate_15 : decode cX10_mate 15 = .ok (.iconst 0, 1) := by decide +kernel
theorem dX10_mate_16 : decode cX10_mate 16 = .ok (.istore 4, 2) := by decide +kernel
theorem dX10_mate_18 : decode cX10_mate 18 = .ok (.iload 4, 2) := by decide +kernel
theorem dX10_mate_20 : decode cX10_mate 20 = .ok (.aload_n 0, 1) := by decide +kernel
theorem dX10_mate_21 : decode cX10_mate 21 = .ok (.invokevirtual 244, 3) := by decide +kernel
theorem dX10_mate_24 : decode cX10_mate 24 = .ok (.if_icmp .ge 40, 3) := by decide +kernel
theorem dX10_mate_27 : decode cX10_mate 27 = .ok (.iload 4, 2) := by decide +kernel
theorem dX10_mate_29 : decode cX10_mate 29 = .ok (.iload_n 1, 1) := by decide +kernel
theorem dX10_mate_30 : decode cX10_mate 30 = .ok (.if_icmp .eq 28, 3) := by decide +kernel
theorem dX10_mate_33 : decode cX10_mate 33 = .ok (.aload_n 0, 1) := by decide +kernel
theorem dX10_mate_34 : decode cX10_mate 34 = .ok (.iload_n 1, 1) := by decide +kernel
theorem dX10_mate_35 : decode cX10_mate 35 = .ok (.iload 4, 2) := by decide +kernel
theorem dX10_mate_37 : decode cX10_mate 37 = .ok (.invokevirtual 310, 3) := by decide +kernel
theorem dX10_mate_40 : decode cX10_mate 40 = .ok (.iload_n 3, 1) := by decide +kernel
theorem dX10_mate_41 : decode cX10_mate 41 = .ok (.if_icmp .gt 6, 3) := by decide +kernel
theorem dX10_mate_44 : decode cX10_mate 44 = .ok (.goto 14, 3) := by decide +kernel
theorem dX10_mate_47 : decode cX10_mate 47 = .ok (.aload_n 0, 1) := by decide +kernel
theorem dX10_mate_48 : decode cX10_mate 48 = .ok (.iload_n 1, 1) := by decide +kernel
theorem dX10_mate_49 : decode cX10_mate 49 = .ok (.iload 4, 2) := by decide +kernel
theorem dX10_mate_51 : decode cX10_mate 51 = .ok (.invokevirtual 310, 3) := by decide +kernel
theorem dX10_mate_54 : decode cX10_mate 54 = .ok (.istore_n 3, 1) := by decide +kernel
theorem dX10_mate_55 : decode cX10_mate 55 = .ok (.iload 4, 2) := by decide +kernel
theorem dX10_mate_57 : decode cX10_mate 57 = .ok (.istore_n 2, 1) := by decide +kernel
theorem dX10_mate_58 : decode cX10_mate 58 = .ok (.iinc 4 1, 3) := by decide +kernel
theorem dX10_mate_61 : decode cX10_mate 61 = .ok (.goto (-43), 3) := by decide +kernel
theorem dX10_mate_64 : decode cX10_mate 64 = .ok (.iload_n 2, 1) := by decide +kernel
theorem dX10_mate_65 : decode cX10_mate 65 = .ok (.ireturn, 1) := by decide +kernel
theorem dX10_doesGive_0 : decode cX10_doesGive 0 = .ok (.aload_n 0, 1) := by decide +kernel
theorem dX10_doesGive_1 : decode cX10_doesGive 1 = .ok (.getfield 267, 3) := by decide +kernel
theorem dX10_doesGive_4 : decode cX10_doesGive 4 = .ok (.iconst 1, 1) := by decide +kernel
theorem dX10_doesGive_5 : decode cX10_doesGive 5 = .ok (.if_icmp .ne 36, 3) := by decide +kernel
theorem dX10_doesGive_8 : decode cX10_doesGive 8 = .ok (.iconst 0, 1) := by decide +kernel
theorem dX10_doesGive_9 : decode cX10_doesGive 9 = .ok (.istore_n 3, 1) := by decide +kernel
theorem dX10_doesGive_10 : decode cX10_doesGive 10 = .ok (.iload_n 3, 1) := by decide +kernel
theorem dX10_doesGive_11 : decode cX10_doesGive 11 = .ok (.aload_n 0, 1) := by decide +kernel
theorem dX10_doesGive_12 : decode cX10_doesGive 12 = .ok (.getfield 9, 3) := by decide +kernel
theorem dX10_doesGive_15 : decode cX10_doesGive 15 = .ok (.bipush 6, 2) := by decide +kernel
theorem dX10_doesGive_17 : decode cX10_doesGive 17 = .ok (.iaload, 1) := by decide +kernel
theorem dX10_doesGive_18 : decode cX10_doesGive 18 = .ok (.if_icmp .ge 21, 3) := by decide +kernel
theorem dX10_doesGive_21 : decode cX10_doesGive 21 = .ok (.aload_n 0, 1) := by decide +kernel
theorem dX10_doesGive_22 : decode cX10_doesGive 22 = .ok (.getfield 40, 3) := by decide +kernel
theorem dX10_doesGive_25 : decode cX10_doesGive 25 = .ok (.iload_n 3, 1) := by decide +kernel
theorem dX10_doesGive_26 : decode cX10_doesGive 26 = .ok (.iaload, 1) := by decide +kernel
theorem dX10_doesGive_27 : decode cX10_doesGive 27 = .ok (.iload_n 2, 1) := by decide +kernel
theorem dX10_doesGive_28 : decode cX10_doesGive 28 = .ok (.if_icmp .ne 5, 3) := by decide +kernel
theorem dX10_doesGive_31 : decode cX10_doesGive 31 = .ok (.iconst 1, 1) := by decide +kernel
theorem dX10_doesGive_32 : decode cX10_doesGive 32 = .ok (.ireturn, 1) := by decide +kernel
theorem dX10_doesGive_33 : decode cX10_doesGive 33 = .ok (.iinc 3 1, 3) := by decide +kernel
theorem dX10_doesGive_36 : decode cX10_doesGive 36 = .ok (.goto (-26), 3) := by decide +kernel
theorem dX10_doesGive_39 : decode cX10_doesGive 39 = .ok (.iconst 0, 1) := by decide +kernel
theorem dX10_doesGive_40 : decode cX10_doesGive 40 = .ok (.ireturn, 1) := by decide +kernel
theorem dX10_doesGive_41 : decode cX10_doesGive 41 = .ok (.aload_n 0, 1) := by decide +kernel
theorem dX10_doesGive_42 : decode cX10_doesGive 42 = .ok (.getfield 267, 3) := by decide +kernel
theorem dX10_doesGive_45 : decode cX10_doesGive 45 = .ok (.ifCond .eq 47, 3) := by decide +kernel
theorem dX10_doesGive_48 : decode cX10_doesGive 48 = .ok (.aload_n 0, 1) := by decide +kernel
theorem dX10_doesGive_49 : decode cX10_doesGive 49 = .ok (.getfield 267, 3) := by decide +kernel
theorem dX10_doesGive_52 : decode cX10_doesGive 52 = .ok (.iconst 2, 1) := by decide +kernel
theorem dX10_doesGive_53 : decode cX10_doesGive 53 = .ok (.if_icmp .ne 16, 3) := by decide +kernel
theorem dX10_doesGive_56 : decode cX10_doesGive 56 = .ok (.aload_n 0, 1) := by decide +kernel
theorem dX10_doesGive_57 : decode cX10_doesGive 57 = .ok (.iload_n 2, 1) := by decide +kernel
theorem dX10_doesGive_58 : decode cX10_doesGive 58 = .ok (.invokevirtual 238, 3) := by decide +kernel
theorem dX10_doesGive_61 : decode cX10_doesGive 61 = .ok (.aload_n 0, 1) := by decide +kernel
theorem dX10_doesGive_62 : decode cX10_doesGive 62 = .ok (.iload_n 1, 1) := by decide +kernel
theorem dX10_doesGive_63 : decode cX10_doesGive 63 = .ok (.invokevirtual 238, 3) := by decide +kernel
theorem dX10_doesGive_66 : decode cX10_doesGive 66 = .ok (.if_icmp .le 26, 3) := by decide +kernel
theorem dX10_doesGive_69 : decode cX10_doesGive 69 = .ok (.aload_n 0, 1) := by decide +kernel
theorem dX10_doesGive_70 : decode cX10_doesGive 70 = .ok (.getfield 267, 3) := by decide +kernel
theorem dX10_doesGive_73 : decode cX10_doesGive 73 = .ok (.iconst 3, 1) := by decide +kernel
theorem dX10_doesGive_74 : decode cX10_doesGive 74 = .ok (.if_icmp .ne 22, 3) := by decide +kernel
theorem dX10_doesGive_77 : decode cX10_doesGive 77 = .ok (.aload_n 0, 1) := by decide +kernel
theorem dX10_doesGive_78 : decode cX10_doesGive 78 = .ok (.getfield 43, 3) := by decide +kernel
theorem dX10_doesGive_81 : decode cX10_doesGive 81 = .ok (.iload_n 2, 1) := by decide +kernel
theorem dX10_doesGive_82 : decode cX10_doesGive 82 = .ok (.iaload, 1) := by decide +kernel
theorem dX10_doesGive_83 : decode cX10_doesGive 83 = .ok (.aload_n 0, 1) := by decide +kernel
theorem dX10_doesGive_84 : decode cX10_doesGive 84 = .ok (.getfield 43, 3) := by decide +kernel
theorem dX10_doesGive_87 : decode cX10_doesGive 87 = .ok (.iload_n 1, 1) := by decide +kernel
theorem dX10_doesGive_88 : decode cX10_doesGive 88 = .ok (.iaload, 1) := by decide +kernel
theorem dX10_doesGive_89 : decode cX10_doesGive 89 = .ok (.if_icmp .ge 7, 3) := by decide +kernel
theorem dX10_doesGive_92 : decode cX10_doesGive 92 = .ok (.iconst 1, 1) := by decide +kernel
theorem dX10_doesGive_93 : decode cX10_doesGive 93 = .ok (.goto 4, 3) := by decide +kernel
theorem dX10_doesGive_96 : decode cX10_doesGive 96 = .ok (.iconst 0, 1) := by decide +kernel
theorem dX10_doesGive_97 : decode cX10_doesGive 97 = .ok (.ireturn, 1) := by decide +kernel
theorem dX10_giverTo_0 : decode cX10_giverTo 0 = .ok (.iconst 0, 1) := by decide +kernel
theorem dX10_giverTo_1 : decode cX10_giverTo 1 = .ok (.istore 4, 2) := by decide +kernel
theorem dX10_giverTo_3 : decode cX10_giverTo 3 = .ok (.iload 4, 2) := by decide +kernel
theorem dX10_giverTo_5 : decode cX10_giverTo 5 = .ok (.aload_n 0, 1) := by decide +kernel
theorem dX10_giverTo_6 : decode cX10_giverTo 6 = .ok (.invokevirtual 244, 3) := by decide +kernel
theorem dX10_giverTo_9 : decode cX10_giverTo 9 = .ok (.if_icmp .ge 49, 3) := by decide +kernel
theorem dX10_giverTo_12 : decode cX10_giverTo 12 = .ok (.iload 4, 2) := by decide +kernel
theorem dX10_giverTo_14 : decode cX10_giverTo 14 = .ok (.iload_n 1, 1) := by decide +kernel
theorem dX10_giverTo_15 : decode cX10_giverTo 15 = .ok (.if_icmp .eq 37, 3) := by decide +kernel
theorem dX10_giverTo_18 : decode cX10_giverTo 18 = .ok (.iload_n 2, 1) := by decide +kernel
theorem dX10_giverTo_19 : decode cX10_giverTo 19 = .ok (.iload 4, 2) := by decide +kernel
theorem dX10_giverTo_21 : decode cX10_giverTo 21 = .ok (.invokestatic 252, 3) := by decide +kernel
theorem dX10_giverTo_24 : decode cX10_giverTo 24 = .ok (.iconst 1, 1) := by decide +kernel
theorem dX10_giverTo_25 : decode cX10_giverTo 25 = .ok (.if_icmp .ne 27, 3) := by decide +kernel
theorem dX10_giverTo_28 : decode cX10_giverTo 28 = .ok (.aload_n 0, 1) := by decide +kernel
theorem dX10_giverTo_29 : decode cX10_giverTo 29 = .ok (.iload 4, 2) := by decide +kernel
theorem dX10_giverTo_31 : decode cX10_giverTo 31 = .ok (.iload_n 1, 1) := by decide +kernel
theorem dX10_giverTo_32 : decode cX10_giverTo 32 = .ok (.iload_n 3, 1) := by decide +kernel
theorem dX10_giverTo_33 : decode cX10_giverTo 33 = .ok (.invokevirtual 303, 3) := by decide +kernel
theorem dX10_giverTo_36 : decode cX10_giverTo 36 = .ok (.ifCond .eq 16, 3) := by decide +kernel
theorem dX10_giverTo_39 : decode cX10_giverTo 39 = .ok (.aload_n 0, 1) := by decide +kernel
theorem dX10_giverTo_40 : decode cX10_giverTo 40 = .ok (.iload 4, 2) := by decide +kernel
theorem dX10_giverTo_42 : decode cX10_giverTo 42 = .ok (.iload_n 1, 1) := by decide +kernel
theorem dX10_giverTo_43 : decode cX10_giverTo 43 = .ok (.invokevirtual 328, 3) := by decide +kernel
theorem dX10_giverTo_46 : decode cX10_giverTo 46 = .ok (.ifCond .eq 6, 3) := by decide +kernel
theorem dX10_giverTo_49 : decode cX10_giverTo 49 = .ok (.iload 4, 2) := by decide +kernel
theorem dX10_giverTo_51 : decode cX10_giverTo 51 = .ok (.ireturn, 1) := by decide +kernel
theorem dX10_giverTo_52 : decode cX10_giverTo 52 = .ok (.iinc 4 1, 3) := by decide +kernel
theorem dX10_giverTo_55 : decode cX10_giverTo 55 = .ok (.goto (-52), 3) := by decide +kernel
theorem dX10_giverTo_58 : decode cX10_giverTo 58 = .ok (.iconst (-1), 1) := by decide +kernel
theorem dX10_giverTo_59 : decode cX10_giverTo 59 = .ok (.ireturn, 1) := by decide +kernel
theorem dX10_goNote_0 : decode cX10_goNote 0 = .ok (.aload_n 0, 1) := by decide +kernel
theorem dX10_goNote_1 : decode cX10_goNote 1 = .ok (.getfield 264, 3) := by decide +kernel
theorem dX10_goNote_4 : decode cX10_goNote 4 = .ok (.iload_n 1, 1) := by decide +kernel
theorem dX10_goNote_5 : decode cX10_goNote 5 = .ok (.invokestatic 252, 3) := by decide +kernel
theorem dX10_goNote_8 : decode cX10_goNote 8 = .ok (.iconst 1, 1) := by decide +kernel
theorem dX10_goNote_9 : decode cX10_goNote 9 = .ok (.if_icmp .ne 7, 3) := by decide +kernel
theorem dX10_goNote_12 : decode cX10_goNote 12 = .ok (.iconst 0, 1) := by decide +kernel
theorem dX10_goNote_13 : decode cX10_goNote 13 = .ok (.goto 6, 3) := by decide +kernel
theorem dX10_goNote_16 : decode cX10_goNote 16 = .ok (.iconst 1, 1) := by decide +kernel
theorem dX10_goNote_17 : decode cX10_goNote 17 = .ok (.iload_n 1, 1) := by decide +kernel
theorem dX10_goNote_18 : decode cX10_goNote 18 = .ok (.ishl, 1) := by decide +kernel
theorem dX10_goNote_19 : decode cX10_goNote 19 = .ok (.istore_n 3, 1) := by decide +kernel
theorem dX10_goNote_20 : decode cX10_goNote 20 = .ok (.iconst 0, 1) := by decide +kernel
theorem dX10_goNote_21 : decode cX10_goNote 21 = .ok (.istore 4, 2) := by decide +kernel
theorem dX10_goNote_23 : decode cX10_goNote 23 = .ok (.iload 4, 2) := by decide +kernel
theorem dX10_goNote_25 : decode cX10_goNote 25 = .ok (.bipush 6, 2) := by decide +kernel
theorem dX10_goNote_27 : decode cX10_goNote 27 = .ok (.if_icmp .ge 35, 3) := by decide +kernel
theorem dX10_goNote_30 : decode cX10_goNote 30 = .ok (.aload_n 0, 1) := by decide +kernel
theorem dX10_goNote_31 : decode cX10_goNote 31 = .ok (.getfield 49, 3) := by decide +kernel
theorem dX10_goNote_34 : decode cX10_goNote 34 = .ok (.iload 4, 2) := by decide +kernel
theorem dX10_goNote_36 : decode cX10_goNote 36 = .ok (.iload 4, 2) := by decide +kernel
theorem dX10_goNote_38 : decode cX10_goNote 38 = .ok (.iload_n 1, 1) := by decide +kernel
theorem dX10_goNote_39 : decode cX10_goNote 39 = .ok (.if_icmp .ne 7, 3) := by decide +kernel
theorem dX10_goNote_42 : decode cX10_goNote 42 = .ok (.iconst 0, 1) := by decide +kernel
theorem dX10_goNote_43 : decode cX10_goNote 43 = .ok (.goto 4, 3) := by decide +kernel
theorem dX10_goNote_46 : decode cX10_goNote 46 = .ok (.iconst (-1), 1) := by decide +kernel
theorem dX10_goNote_47 : decode cX10_goNote 47 = .ok (.iastore, 1) := by decide +kernel
theorem dX10_goNote_48 : decode cX10_goNote 48 = .ok (.aload_n 0, 1) := by decide +kernel
theorem dX10_goNote_49 : decode cX10_goNote 49 = .ok (.getfield 52, 3) := by decide +kernel
theorem dX10_goNote_52 : decode cX10_goNote 52 = .ok (.iload 4, 2) := by decide +kernel
theorem dX10_goNote_54 : decode cX10_goNote 54 = .ok (.iconst (-1), 1) := by decide +kernel
theorem dX10_goNote_55 : decode cX10_goNote 55 = .ok (.iastore, 1) := by decide +kernel
theorem dX10_goNote_56 : decode cX10_goNote 56 = .ok (.iinc 4 1, 3) := by decide +kernel
theorem dX10_goNote_59 : decode cX10_goNote 59 = .ok (.goto (-36), 3) := by decide +kernel
theorem dX10_goNote_62 : decode cX10_goNote 62 = .ok (.iconst 0, 1) := by decide +kernel
theorem dX10_goNote_63 : decode cX10_goNote 63 = .ok (.istore 4, 2) := by decide +kernel
theorem dX10_goNote_65 : decode cX10_goNote 65 = .ok (.iload 4, 2) := by decide +kernel
theorem dX10_goNote_67 : decode cX10_goNote 67 = .ok (.iload_n 2, 1) := by decide +kernel
theorem dX10_goNote_68 : decode cX10_goNote 68 = .ok (.if_icmp .gt 118, 3) := by decide +kernel
theorem dX10_goNote_71 : decode cX10_goNote 71 = .ok (.iload_n 3, 1) := by decide +kernel
theorem dX10_goNote_72 : decode cX10_goNote 72 = .ok (.istore 5, 2) := by decide +kernel
theorem dX10_goNote_74 : decode cX10_goNote 74 = .ok (.iconst 0, 1) := by decide +kernel
theorem dX10_goNote_75 : decode cX10_goNote 75 = .ok (.istore 6, 2) := by decide +kernel
theorem dX10_goNote_77 : decode cX10_goNote 77 = .ok (.iload 6, 2) := by decide +kernel
theorem dX10_goNote_79 : decode cX10_goNote 79 = .ok (.aload_n 0, 1) := by decide +kernel
theorem dX10_goNote_80 : decode cX10_goNote 80 = .ok (.invokevirtual 244, 3) := by decide +kernel
theorem dX10_goNote_83 : decode cX10_goNote 83 = .ok (.if_icmp .ge 86, 3) := by decide +kernel
theorem dX10_goNote_86 : decode cX10_goNote 86 = .ok (.aload_n 0, 1) := by decide +kernel
theorem dX10_goNote_87 : decode cX10_goNote 87 = .ok (.getfield 270, 3) := by decide +kernel
theorem dX10_goNote_90 : decode cX10_goNote 90 = .ok (.iload 4, 2) := by decide +kernel
theorem dX10_goNote_92 : decode cX10_goNote 92 = .ok (.invokestatic 252, 3) := by decide +kernel
theorem dX10_goNote_95 : decode cX10_goNote 95 = .ok (.ifCond .ne 74, 3) := by decide +kernel
theorem dX10_goNote_98 : decode cX10_goNote 98 = .ok (.iload_n 3, 1) := by decide +kernel
theorem dX10_goNote_99 : decode cX10_goNote 99 = .ok (.aload_n 0, 1) := by decide +kernel
theorem dX10_goNote_100 : decode cX10_goNote 100 = .ok (.getfield 264, 3) := by decide +kernel
theorem dX10_goNote_103 : decode cX10_goNote 103 = .ok (.ior, 1) := by decide +kernel
theorem dX10_goNote_104 : decode cX10_goNote 104 = .ok (.iload 6, 2) := by decide +kernel
theorem dX10_goNote_106 : decode cX10_goNote 106 = .ok (.invokestatic 252, 3) := by decide +kernel
theorem dX10_goNote_109 : decode cX10_goNote 109 = .ok (.iconst 1, 1) := by decide +kernel
theorem dX10_goNote_110 : decode cX10_goNote 110 = .ok (.if_icmp .ne 6, 3) := by decide +kernel
theorem dX10_goNote_113 : decode cX10_goNote 113 = .ok (.goto 50, 3) := by decide +kernel
theorem dX10_goNote_116 : decode cX10_goNote 116 = .ok (.aload_n 0, 1) := by decide +kernel
theorem dX10_goNote_117 : decode cX10_goNote 117 = .ok (.iload 6, 2) := by decide +kernel
theorem dX10_goNote_119 : decode cX10_goNote 119 = .ok (.iload_n 3, 1) := by decide +kernel
theorem dX10_goNote_120 : decode cX10_goNote 120 = .ok (.iload 4, 2) := by decide +kernel
theorem dX10_goNote_122 : decode cX10_goNote 122 = .ok (.invokevirtual 332, 3) := by decide +kernel
theorem dX10_goNote_125 : decode cX10_goNote 125 = .ok (.istore 7, 2) := by decide +kernel
theorem dX10_goNote_127 : decode cX10_goNote 127 = .ok (.iload 7, 2) := by decide +kernel
theorem dX10_goNote_129 : decode cX10_goNote 129 = .ok (.iconst (-1), 1) := by decide +kernel
theorem dX10_goNote_130 : decode cX10_goNote 130 = .ok (.if_icmp .ne 6, 3) := by decide +kernel
theorem dX10_goNote_133 : decode cX10_goNote 133 = .ok (.goto 30, 3) := by decide +kernel
theorem dX10_goNote_136 : decode cX10_goNote 136 = .ok (.iload 5, 2) := by decide +kernel
theorem dX10_goNote_138 : decode cX10_goNote 138 = .ok (.iconst 1, 1) := by decide +kernel
theorem dX10_goNote_139 : decode cX10_goNote 139 = .ok (.iload 6, 2) := by decide +kernel
theorem dX10_goNote_141 : decode cX10_goNote 141 = .ok (.ishl, 1) := by decide +kernel
theorem dX10_goNote_142 : decode cX10_goNote 142 = .ok (.ior, 1) := by decide +kernel
theorem dX10_goNote_143 : decode cX10_goNote 143 = .ok (.istore 5, 2) := by decide +kernel
theorem dX10_goNote_145 : decode cX10_goNote 145 = .ok (.aload_n 0, 1) := by decide +kernel
theorem dX10_goNote_146 : decode cX10_goNote 146 = .ok (.getfield 49, 3) := by decide +kernel
theorem dX10_goNote_149 : decode cX10_goNote 149 = .ok (.iload 6, 2) := by decide +kernel
theorem dX10_goNote_151 : decode cX10_goNote 151 = .ok (.iload 4, 2) := by decide +kernel
theorem dX10_goNote_153 : decode cX10_goNote 153 = .ok (.iastore, 1) := by decide +kernel
theorem dX10_goNote_154 : decode cX10_goNote 154 = .ok (.aload_n 0, 1) := by decide +kernel
theorem dX10_goNote_155 : decode cX10_goNote 155 = .ok (.getfield 52, 3) := by decide +kernel
theorem dX10_goNote_158 : decode cX10_goNote 158 = .ok (.iload 6, 2) := by decide +kernel
theorem dX10_goNote_160 : decode cX10_goNote 160 = .ok (.iload 7, 2) := by decide +kernel
theorem dX10_goNote_162 : decode cX10_goNote 162 = .ok (.iastore, 1) := by decide +kernel
theorem dX10_goNote_163 : decode cX10_goNote 163 = .ok (.iinc 6 1, 3) := by decide +kernel
theorem dX10_goNote_166 : decode cX10_goNote 166 = .ok (.goto (-89), 3) := by decide +kernel
theorem dX10_goNote_169 : decode cX10_goNote 169 = .ok (.iload 5, 2) := by decide +kernel
theorem dX10_goNote_171 : decode cX10_goNote 171 = .ok (.istore_n 3, 1) := by decide +kernel
theorem dX10_goNote_172 : decode cX10_goNote 172 = .ok (.aload_n 0, 1) := by decide +kernel
theorem dX10_goNote_173 : decode cX10_goNote 173 = .ok (.getfield 46, 3) := by decide +kernel
theorem dX10_goNote_176 : decode cX10_goNote 176 = .ok (.iload 4, 2) := by decide +kernel
theorem dX10_goNote_178 : decode cX10_goNote 178 = .ok (.iload_n 3, 1) := by decide +kernel
theorem dX10_goNote_179 : decode cX10_goNote 179 = .ok (.iastore, 1) := by decide +kernel
theorem dX10_goNote_180 : decode cX10_goNote 180 = .ok (.iinc 4 1, 3) := by decide +kernel
theorem dX10_goNote_183 : decode cX10_goNote 183 = .ok (.goto (-118), 3) := by decide +kernel
theorem dX10_goNote_186 : decode cX10_goNote 186 = .ok (.iload_n 3, 1) := by decide +kernel
theorem dX10_goNote_187 : decode cX10_goNote 187 = .ok (.ireturn, 1) := by decide +kernel
theorem dX10_goNote__0 : decode cX10_goNote_ 0 = .ok (.aload_n 0, 1) := by decide +kernel
theorem dX10_goNote__1 : decode cX10_goNote_ 1 = .ok (.iload_n 1, 1) := by decide +kernel
theorem dX10_goNote__2 : decode cX10_goNote_ 2 = .ok (.aload_n 0, 1) := by decide +kernel
theorem dX10_goNote__3 : decode cX10_goNote_ 3 = .ok (.invokevirtual 247, 3) := by decide +kernel
theorem dX10_goNote__6 : decode cX10_goNote_ 6 = .ok (.invokevirtual 335, 3) := by decide +kernel
theorem dX10_goNote__9 : decode cX10_goNote_ 9 = .ok (.ireturn, 1) := by decide +kernel
theorem dX10_have_0 : decode cX10_have 0 = .ok (.aload_n 0, 1) := by decide +kernel
theorem dX10_have_1 : decode cX10_have 1 = .ok (.iload_n 2, 1) := by decide +kernel
theorem dX10_have_2 : decode cX10_have 2 = .ok (.invokevirtual 294, 3) := by decide +kernel
theorem dX10_have_5 : decode cX10_have 5 = .ok (.ifCond .eq 21, 3) := by decide +kernel
theorem dX10_have_8 : decode cX10_have 8 = .ok (.aload_n 0, 1) := by decide +kernel
theorem dX10_have_9 : decode cX10_have 9 = .ok (.iload_n 1, 1) := by decide +kernel
theorem dX10_have_10 : decode cX10_have 10 = .ok (.i2l, 1) := by decide +kernel
theorem dX10_have_11 : decode cX10_have 11 = .ok (.invokevirtual 222, 3) := by decide +kernel
theorem dX10_have_14 : decode cX10_have 14 = .ok (.ifCond .eq 12, 3) := by decide +kernel
theorem dX10_have_17 : decode cX10_have 17 = .ok (.aload_n 0, 1) := by decide +kernel
theorem dX10_have_18 : decode cX10_have 18 = .ok (.iload_n 1, 1) := by decide +kernel
theorem dX10_have_19 : decode cX10_have 19 = .ok (.iload_n 2, 1) := by decide +kernel
theorem dX10_have_20 : decode cX10_have 20 = .ok (.invokevirtual 335, 3) := by decide +kernel
theorem dX10_have_23 : decode cX10_have 23 = .ok (.goto 5, 3) := by decide +kernel
theorem dX10_have_26 : decode cX10_have 26 = .ok (.bipush (-2), 2) := by decide +kernel
theorem dX10_have_28 : decode cX10_have 28 = .ok (.ireturn, 1) := by decide +kernel
theorem dX10_asksNote_0 : decode cX10_asksNote 0 = .ok (.aload_n 0, 1) := by decide +kernel
theorem dX10_asksNote_1 : decode cX10_asksNote 1 = .ok (.iload_n 1, 1) := by decide +kernel
theorem dX10_asksNote_2 : decode cX10_asksNote 2 = .ok (.invokevirtual 288, 3) := by decide +kernel
theorem dX10_asksNote_5 : decode cX10_asksNote 5 = .ok (.ifCond .eq 12, 3) := by decide +kernel
theorem dX10_asksNote_8 : decode cX10_asksNote 8 = .ok (.aload_n 0, 1) := by decide +kernel
theorem dX10_asksNote_9 : decode cX10_asksNote 9 = .ok (.iload_n 2, 1) := by decide +kernel
theorem dX10_asksNote_10 : decode cX10_asksNote 10 = .ok (.i2l, 1) := by decide +kernel
theorem dX10_asksNote_11 : decode cX10_asksNote 11 = .ok (.invokevirtual 222, 3) := by decide +kernel
theorem dX10_asksNote_14 : decode cX10_asksNote 14 = .ok (.ifCond .ne 5, 3) := by decide +kernel
theorem dX10_asksNote_17 : decode cX10_asksNote 17 = .ok (.iconst 0, 1) := by decide +kernel
theorem dX10_asksNote_18 : decode cX10_asksNote 18 = .ok (.ireturn, 1) := by decide +kernel
theorem dX10_asksNote_19 : decode cX10_asksNote 19 = .ok (.aload_n 0, 1) := by decide +kernel
theorem dX10_asksNote_20 : decode cX10_asksNote 20 = .ok (.iload_n 1, 1) := by decide +kernel
theorem dX10_asksNote_21 : decode cX10_asksNote 21 = .ok (.invokevirtual 338, 3) := by decide +kernel
theorem dX10_asksNote_24 : decode cX10_asksNote 24 = .ok (.pop, 1) := by decide +kernel
theorem dX10_asksNote_25 : decode cX10_asksNote 25 = .ok (.iconst 1, 1) := by decide +kernel
theorem dX10_asksNote_26 : decode cX10_asksNote 26 = .ok (.ireturn, 1) := by decide +kernel
theorem dX10_gets_0 : decode cX10_gets 0 = .ok (.aload_n 0, 1) := by decide +kernel
theorem dX10_gets_1 : decode cX10_gets 1 = .ok (.iload_n 1, 1) := by decide +kernel
theorem dX10_gets_2 : decode cX10_gets 2 = .ok (.iload_n 2, 1) := by decide +kernel
theorem dX10_gets_3 : decode cX10_gets 3 = .ok (.invokevirtual 340, 3) := by decide +kernel
theorem dX10_gets_6 : decode cX10_gets 6 = .ok (.ifCond .eq 12, 3) := by decide +kernel
theorem dX10_gets_9 : decode cX10_gets 9 = .ok (.aload_n 0, 1) := by decide +kernel
theorem dX10_gets_10 : decode cX10_gets 10 = .ok (.getfield 49, 3) := by decide +kernel
theorem dX10_gets_13 : decode cX10_gets 13 = .ok (.iload_n 2, 1) := by decide +kernel
theorem dX10_gets_14 : decode cX10_gets 14 = .ok (.iaload, 1) := by decide +kernel
theorem dX10_gets_15 : decode cX10_gets 15 = .ok (.goto 5, 3) := by decide +kernel
theorem dX10_gets_18 : decode cX10_gets 18 = .ok (.bipush (-2), 2) := by decide +kernel
theorem dX10_gets_20 : decode cX10_gets 20 = .ok (.ireturn, 1) := by decide +kernel
theorem dX10_from_0 : decode cX10_from 0 = .ok (.aload_n 0, 1) := by decide +kernel
theorem dX10_from_1 : decode cX10_from 1 = .ok (.iload_n 1, 1) := by decide +kernel
theorem dX10_from_2 : decode cX10_from 2 = .ok (.iload_n 2, 1) := by decide +kernel
theorem dX10_from_3 : decode cX10_from 3 = .ok (.invokevirtual 340, 3) := by decide +kernel
theorem dX10_from_6 : decode cX10_from 6 = .ok (.ifCond .eq 12, 3) := by decide +kernel
theorem dX10_from_9 : decode cX10_from 9 = .ok (.aload_n 0, 1) := by decide +kernel
theorem dX10_from_10 : decode cX10_from 10 = .ok (.getfield 52, 3) := by decide +kernel
theorem dX10_from_13 : decode cX10_from 13 = .ok (.iload_n 2, 1) := by decide +kernel
theorem dX10_from_14 : decode cX10_from 14 = .ok (.iaload, 1) := by decide +kernel
theorem dX10_from_15 : decode cX10_from 15 = .ok (.goto 5, 3) := by decide +kernel
theorem dX10_from_18 : decode cX10_from 18 = .ok (.bipush (-2), 2) := by decide +kernel
theorem dX10_from_20 : decode cX10_from 20 = .ok (.ireturn, 1) := by decide +kernel
theorem dX10_hands_0 : decode cX10_hands 0 = .ok (.aload_n 0, 1) := by decide +kernel
theorem dX10_hands_1 : decode cX10_hands 1 = .ok (.iload_n 1, 1) := by decide +kernel
theorem dX10_hands_2 : decode cX10_hands 2 = .ok (.iload_n 2, 1) := by decide +kernel
theorem dX10_hands_3 : decode cX10_hands 3 = .ok (.invokevirtual 340, 3) := by decide +kernel
theorem dX10_hands_6 : decode cX10_hands 6 = .ok (.ifCond .ne 6, 3) := by decide +kernel
theorem dX10_hands_9 : decode cX10_hands 9 = .ok (.bipush (-2), 2) := by decide +kernel
theorem dX10_hands_11 : decode cX10_hands 11 = .ok (.ireturn, 1) := by decide +kernel
theorem dX10_hands_12 : decode cX10_hands 12 = .ok (.aload_n 0, 1) := by decide +kernel
theorem dX10_hands_13 : decode cX10_hands 13 = .ok (.getfield 49, 3) := by decide +kernel
theorem dX10_hands_16 : decode cX10_hands 16 = .ok (.iload_n 2, 1) := by decide +kernel
theorem dX10_hands_17 : decode cX10_hands 17 = .ok (.iaload, 1) := by decide +kernel
theorem dX10_hands_18 : decode cX10_hands 18 = .ok (.iconst (-1), 1) := by decide +kernel
theorem dX10_hands_19 : decode cX10_hands 19 = .ok (.if_icmp .ne 5, 3) := by decide +kernel
theorem dX10_hands_22 : decode cX10_hands 22 = .ok (.iconst (-1), 1) := by decide +kernel
theorem dX10_hands_23 : decode cX10_hands 23 = .ok (.ireturn, 1) := by decide +kernel
theorem dX10_hands_24 : decode cX10_hands 24 = .ok (.iconst 0, 1) := by decide +kernel
theorem dX10_hands_25 : decode cX10_hands 25 = .ok (.istore_n 3, 1) := by decide +kernel
theorem dX10_hands_26 : decode cX10_hands 26 = .ok (.iload_n 2, 1) := by decide +kernel
theorem dX10_hands_27 : decode cX10_hands 27 = .ok (.istore 4, 2) := by decide +kernel
theorem dX10_hands_29 : decode cX10_hands 29 = .ok (.iload 4, 2) := by decide +kernel
theorem dX10_hands_31 : decode cX10_hands 31 = .ok (.iload_n 1, 1) := by decide +kernel
theorem dX10_hands_32 : decode cX10_hands 32 = .ok (.if_icmp .eq 18, 3) := by decide +kernel
theorem dX10_hands_35 : decode cX10_hands 35 = .ok (.iinc 3 1, 3) := by decide +kernel
theorem dX10_hands_38 : decode cX10_hands 38 = .ok (.aload_n 0, 1) := by decide +kernel
theorem dX10_hands_39 : decode cX10_hands 39 = .ok (.getfield 52, 3) := by decide +kernel
theorem dX10_hands_42 : decode cX10_hands 42 = .ok (.iload 4, 2) := by decide +kernel
theorem dX10_hands_44 : decode cX10_hands 44 = .ok (.iaload, 1) := by decide +kernel
theorem dX10_hands_45 : decode cX10_hands 45 = .ok (.istore 4, 2) := by decide +kernel
theorem dX10_hands_47 : decode cX10_hands 47 = .ok (.goto (-18), 3) := by decide +kernel
theorem dX10_hands_50 : decode cX10_hands 50 = .ok (.iload_n 3, 1) := by decide +kernel
theorem dX10_hands_51 : decode cX10_hands 51 = .ok (.ireturn, 1) := by decide +kernel
theorem dX10_all_0 : decode cX10_all 0 = .ok (.aload_n 0, 1) := by decide +kernel
theorem dX10_all_1 : decode cX10_all 1 = .ok (.iload_n 1, 1) := by decide +kernel
theorem dX10_all_2 : decode cX10_all 2 = .ok (.invokevirtual 288, 3) := by decide +kernel
theorem dX10_all_5 : decode cX10_all 5 = .ok (.ifCond .ne 6, 3) := by decide +kernel
theorem dX10_all_8 : decode cX10_all 8 = .ok (.bipush (-2), 2) := by decide +kernel
theorem dX10_all_10 : decode cX10_all 10 = .ok (.ireturn, 1) := by decide +kernel
theorem dX10_all_11 : decode cX10_all 11 = .ok (.aload_n 0, 1) := by decide +kernel
theorem dX10_all_12 : decode cX10_all 12 = .ok (.iload_n 1, 1) := by decide +kernel
theorem dX10_all_13 : decode cX10_all 13 = .ok (.invokevirtual 338, 3) := by decide +kernel
theorem dX10_all_16 : decode cX10_all 16 = .ok (.pop, 1) := by decide +kernel
theorem dX10_all_17 : decode cX10_all 17 = .ok (.iconst 0, 1) := by decide +kernel
theorem dX10_all_18 : decode cX10_all 18 = .ok (.istore_n 2, 1) := by decide +kernel
theorem dX10_all_19 : decode cX10_all 19 = .ok (.iload_n 2, 1) := by decide +kernel
theorem dX10_all_20 : decode cX10_all 20 = .ok (.aload_n 0, 1) := by decide +kernel
theorem dX10_all_21 : decode cX10_all 21 = .ok (.invokevirtual 247, 3) := by decide +kernel
theorem dX10_all_24 : decode cX10_all 24 = .ok (.if_icmp .gt 28, 3) := by decide +kernel
theorem dX10_all_27 : decode cX10_all 27 = .ok (.aload_n 0, 1) := by decide +kernel
theorem dX10_all_28 : decode cX10_all 28 = .ok (.getfield 46, 3) := by decide +kernel
theorem dX10_all_31 : decode cX10_all 31 = .ok (.iload_n 2, 1) := by decide +kernel
theorem dX10_all_32 : decode cX10_all 32 = .ok (.iaload, 1) := by decide +kernel
theorem dX10_all_33 : decode cX10_all 33 = .ok (.iconst 1, 1) := by decide +kernel
theorem dX10_all_34 : decode cX10_all 34 = .ok (.aload_n 0, 1) := by decide +kernel
theorem dX10_all_35 : decode cX10_all 35 = .ok (.invokevirtual 244, 3) := by decide +kernel
theorem dX10_all_38 : decode cX10_all 38 = .ok (.ishl, 1) := by decide +kernel
theorem dX10_all_39 : decode cX10_all 39 = .ok (.iconst 1, 1) := by decide +kernel
theorem dX10_all_40 : decode cX10_all 40 = .ok (.isub, 1) := by decide +kernel
theorem dX10_all_41 : decode cX10_all 41 = .ok (.if_icmp .ne 5, 3) := by decide +kernel
theorem dX10_all_44 : decode cX10_all 44 = .ok (.iload_n 2, 1) := by decide +kernel
theorem dX10_all_45 : decode cX10_all 45 = .ok (.ireturn, 1) := by decide +kernel
theorem dX10_all_46 : decode cX10_all 46 = .ok (.iinc 2 1, 3) := by decide +kernel
theorem dX10_all_49 : decode cX10_all 49 = .ok (.goto (-30), 3) := by decide +kernel
theorem dX10_all_52 : decode cX10_all 52 = .ok (.iconst (-1), 1) := by decide +kernel
theorem dX10_all_53 : decode cX10_all 53 = .ok (.ireturn, 1) := by decide +kernel
theorem dX10_best_0 : decode cX10_best 0 = .ok (.aload_n 0, 1) := by decide +kernel
theorem dX10_best_1 : decode cX10_best 1 = .ok (.invokevirtual 322, 3) := by decide +kernel
theorem dX10_best_4 : decode cX10_best 4 = .ok (.ifCond .ne 6, 3) := by decide +kernel
theorem dX10_best_7 : decode cX10_best 7 = .ok (.bipush (-2), 2) := by decide +kernel
theorem dX10_best_9 : decode cX10_best 9 = .ok (.ireturn, 1) := by decide +kernel
theorem dX10_best_10 : decode cX10_best 10 = .ok (.iconst (-1), 1) := by decide +kernel
theorem dX10_best_11 : decode cX10_best 11 = .ok (.istore_n 1, 1) := by decide +kernel
theorem dX10_best_12 : decode cX10_best 12 = .ok (.iconst 0, 1) := by decide +kernel
theorem dX10_best_13 : decode cX10_best 13 = .ok (.istore_n 2, 1) := by decide +kernel
theorem dX10_best_14 : decode cX10_best 14 = .ok (.iconst 0, 1) := by decide +kernel
theorem dX10_best_15 : decode cX10_best 15 = .ok (.istore_n 3, 1) := by decide +kernel
theorem dX10_best_16 : decode cX10_best 16 = .ok (.iload_n 3, 1) := by decide +kernel
theorem dX10_best_17 : decode cX10_best 17 = .ok (.aload_n 0, 1) := by decide +kernel
theorem dX10_best_18 : decode cX10_best 18 = .ok (.invokevirtual 244, 3) := by decide +kernel
theorem dX10_best_21 : decode cX10_best 21 = .ok (.if_icmp .ge 33, 3) := by decide +kernel
theorem dX10_best_24 : decode cX10_best 24 = .ok (.aload_n 0, 1) := by decide +kernel
theorem dX10_best_25 : decode cX10_best 25 = .ok (.iload_n 3, 1) := by decide +kernel
theorem dX10_best_26 : decode cX10_best 26 = .ok (.invokevirtual 338, 3) := by decide +kernel
theorem dX10_best_29 : decode cX10_best 29 = .ok (.invokestatic 319, 3) := by decide +kernel
theorem dX10_best_32 : decode cX10_best 32 = .ok (.istore 4, 2) := by decide +kernel
theorem dX10_best_34 : decode cX10_best 34 = .ok (.iload 4, 2) := by decide +kernel
theorem dX10_best_36 : decode cX10_best 36 = .ok (.iload_n 2, 1) := by decide +kernel
theorem dX10_best_37 : decode cX10_best 37 = .ok (.if_icmp .gt 6, 3) := by decide +kernel
theorem dX10_best_40 : decode cX10_best 40 = .ok (.goto 8, 3) := by decide +kernel
theorem dX10_best_43 : decode cX10_best 43 = .ok (.iload 4, 2) := by decide +kernel
theorem dX10_best_45 : decode cX10_best 45 = .ok (.istore_n 2, 1) := by decide +kernel
theorem dX10_best_46 : decode cX10_best 46 = .ok (.iload_n 3, 1) := by decide +kernel
theorem dX10_best_47 : decode cX10_best 47 = .ok (.istore_n 1, 1) := by decide +kernel
theorem dX10_best_48 : decode cX10_best 48 = .ok (.iinc 3 1, 3) := by decide +kernel
theorem dX10_best_51 : decode cX10_best 51 = .ok (.goto (-35), 3) := by decide +kernel
theorem dX10_best_54 : decode cX10_best 54 = .ok (.iload_n 1, 1) := by decide +kernel
theorem dX10_best_55 : decode cX10_best 55 = .ok (.ireturn, 1) := by decide +kernel
theorem dX10_lasts_0 : decode cX10_lasts 0 = .ok (.aload_n 0, 1) := by decide +kernel
theorem dX10_lasts_1 : decode cX10_lasts 1 = .ok (.iload_n 1, 1) := by decide +kernel
theorem dX10_lasts_2 : decode cX10_lasts 2 = .ok (.invokevirtual 288, 3) := by decide +kernel
theorem dX10_lasts_5 : decode cX10_lasts 5 = .ok (.ifCond .ne 6, 3) := by decide +kernel
theorem dX10_lasts_8 : decode cX10_lasts 8 = .ok (.bipush (-2), 2) := by decide +kernel
theorem dX10_lasts_10 : decode cX10_lasts 10 = .ok (.ireturn, 1) := by decide +kernel
theorem dX10_lasts_11 : decode cX10_lasts 11 = .ok (.aload_n 0, 1) := by decide +kernel
theorem dX10_lasts_12 : decode cX10_lasts 12 = .ok (.iload_n 1, 1) := by decide +kernel
theorem dX10_lasts_13 : decode cX10_lasts 13 = .ok (.invokevirtual 338, 3) := by decide +kernel
theorem dX10_lasts_16 : decode cX10_lasts 16 = .ok (.pop, 1) := by decide +kernel
theorem dX10_lasts_17 : decode cX10_lasts 17 = .ok (.iconst (-1), 1) := by decide +kernel
theorem dX10_lasts_18 : decode cX10_lasts 18 = .ok (.istore_n 2, 1) := by decide +kernel
theorem dX10_lasts_19 : decode cX10_lasts 19 = .ok (.iconst 0, 1) := by decide +kernel
theorem dX10_lasts_20 : decode cX10_lasts 20 = .ok (.istore_n 3, 1) := by decide +kernel
theorem dX10_lasts_21 : decode cX10_lasts 21 = .ok (.iload_n 3, 1) := by decide +kernel
theorem dX10_lasts_22 : decode cX10_lasts 22 = .ok (.aload_n 0, 1) := by decide +kernel
theorem dX10_lasts_23 : decode cX10_lasts 23 = .ok (.invokevirtual 244, 3) := by decide +kernel
theorem dX10_lasts_26 : decode cX10_lasts 26 = .ok (.if_icmp .ge 29, 3) := by decide +kernel
theorem dX10_lasts_29 : decode cX10_lasts 29 = .ok (.iload_n 3, 1) := by decide +kernel
theorem dX10_lasts_30 : decode cX10_lasts 30 = .ok (.iload_n 1, 1) := by decide +kernel
theorem dX10_lasts_31 : decode cX10_lasts 31 = .ok (.if_icmp .ne 7, 3) := by decide +kernel
theorem dX10_lasts_34 : decode cX10_lasts 34 = .ok (.iload_n 2, 1) := by decide +kernel
theorem dX10_lasts_35 : decode cX10_lasts 35 = .ok (.goto 13, 3) := by decide +kernel
theorem dX10_lasts_38 : decode cX10_lasts 38 = .ok (.iload_n 2, 1) := by decide +kernel
theorem dX10_lasts_39 : decode cX10_lasts 39 = .ok (.aload_n 0, 1) := by decide +kernel
theorem dX10_lasts_40 : decode cX10_lasts 40 = .ok (.getfield 49, 3) := by decide +kernel
theorem dX10_lasts_43 : decode cX10_lasts 43 = .ok (.iload_n 3, 1) := by decide +kernel
theorem dX10_lasts_44 : decode cX10_lasts 44 = .ok (.iaload, 1) := by decide +kernel
theorem dX10_lasts_45 : decode cX10_lasts 45 = .ok (.invokestatic 343, 3) := by decide +kernel
theorem dX10_lasts_48 : decode cX10_lasts 48 = .ok (.istore_n 2, 1) := by decide +kernel
theorem dX10_lasts_49 : decode cX10_lasts 49 = .ok (.iinc 3 1, 3) := by decide +kernel
theorem dX10_lasts_52 : decode cX10_lasts 52 = .ok (.goto (-31), 3) := by decide +kernel
theorem dX10_lasts_55 : decode cX10_lasts 55 = .ok (.iload_n 2, 1) := by decide +kernel
theorem dX10_lasts_56 : decode cX10_lasts 56 = .ok (.ireturn, 1) := by decide +kernel
theorem dX10_needed_0 : decode cX10_needed 0 = .ok (.aload_n 0, 1) := by decide +kernel
theorem dX10_needed_1 : decode cX10_needed 1 = .ok (.iload_n 1, 1) := by decide +kernel
theorem dX10_needed_2 : decode cX10_needed 2 = .ok (.invokevirtual 288, 3) := by decide +kernel
theorem dX10_needed_5 : decode cX10_needed 5 = .ok (.ifCond .ne 6, 3) := by decide +kernel
theorem dX10_needed_8 : decode cX10_needed 8 = .ok (.bipush (-2), 2) := by decide +kernel
theorem dX10_needed_10 : decode cX10_needed 10 = .ok (.ireturn, 1) := by decide +kernel
theorem dX10_needed_11 : decode cX10_needed 11 = .ok (.aload_n 0, 1) := by decide +kernel
theorem dX10_needed_12 : decode cX10_needed 12 = .ok (.iload_n 1, 1) := by decide +kernel
theorem dX10_needed_13 : decode cX10_needed 13 = .ok (.invokevirtual 338, 3) := by decide +kernel
theorem dX10_needed_16 : decode cX10_needed 16 = .ok (.istore_n 2, 1) := by decide +kernel
theorem dX10_needed_17 : decode cX10_needed 17 = .ok (.iconst 0, 1) := by decide +kernel
theorem dX10_needed_18 : decode cX10_needed 18 = .ok (.istore_n 3, 1) := by decide +kernel
theorem dX10_needed_19 : decode cX10_needed 19 = .ok (.iconst 0, 1) := by decide +kernel
theorem dX10_needed_20 : decode cX10_needed 20 = .ok (.istore 4, 2) := by decide +kernel
theorem dX10_needed_22 : decode cX10_needed 22 = .ok (.iload 4, 2) := by decide +kernel
theorem dX10_needed_24 : decode cX10_needed 24 = .ok (.aload_n 0, 1) := by decide +kernel
theorem dX10_needed_25 : decode cX10_needed 25 = .ok (.invokevirtual 244, 3) := by decide +kernel
theorem dX10_needed_28 : decode cX10_needed 28 = .ok (.if_icmp .ge 56, 3) := by decide +kernel
theorem dX10_needed_31 : decode cX10_needed 31 = .ok (.iload 4, 2) := by decide +kernel
theorem dX10_needed_33 : decode cX10_needed 33 = .ok (.iload_n 1, 1) := by decide +kernel
theorem dX10_needed_34 : decode cX10_needed 34 = .ok (.if_icmp .ne 6, 3) := by decide +kernel
theorem dX10_needed_37 : decode cX10_needed 37 = .ok (.goto 41, 3) := by decide +kernel
theorem dX10_needed_40 : decode cX10_needed 40 = .ok (.aload_n 0, 1) := by decide +kernel
theorem dX10_needed_41 : decode cX10_needed 41 = .ok (.iconst 1, 1) := by decide +kernel
theorem dX10_needed_42 : decode cX10_needed 42 = .ok (.iload 4, 2) := by decide +kernel
theorem dX10_needed_44 : decode cX10_needed 44 = .ok (.ishl, 1) := by decide +kernel
theorem dX10_needed_45 : decode cX10_needed 45 = .ok (.putfield 264, 3) := by decide +kernel
theorem dX10_needed_48 : decode cX10_needed 48 = .ok (.iload_n 3, 1) := by decide +kernel
theorem dX10_needed_49 : decode cX10_needed 49 = .ok (.iload_n 2, 1) := by decide +kernel
theorem dX10_needed_50 : decode cX10_needed 50 = .ok (.aload_n 0, 1) := by decide +kernel
theorem dX10_needed_51 : decode cX10_needed 51 = .ok (.iload_n 1, 1) := by decide +kernel
theorem dX10_needed_52 : decode cX10_needed 52 = .ok (.invokevirtual 338, 3) := by decide +kernel
theorem dX10_needed_55 : decode cX10_needed 55 = .ok (.iconst (-1), 1) := by decide +kernel
theorem dX10_needed_56 : decode cX10_needed 56 = .ok (.ixor, 1) := by decide +kernel
theorem dX10_needed_57 : decode cX10_needed 57 = .ok (.iand, 1) := by decide +kernel
theorem dX10_needed_58 : decode cX10_needed 58 = .ok (.aload_n 0, 1) := by decide +kernel
theorem dX10_needed_59 : decode cX10_needed 59 = .ok (.getfield 264, 3) := by decide +kernel
theorem dX10_needed_62 : decode cX10_needed 62 = .ok (.iconst (-1), 1) := by decide +kernel
theorem dX10_needed_63 : decode cX10_needed 63 = .ok (.ixor, 1) := by decide +kernel
theorem dX10_needed_64 : decode cX10_needed 64 = .ok (.iand, 1) := by decide +kernel
theorem dX10_needed_65 : decode cX10_needed 65 = .ok (.ifCond .eq 10, 3) := by decide +kernel
theorem dX10_needed_68 : decode cX10_needed 68 = .ok (.iconst 1, 1) := by decide +kernel
theorem dX10_needed_69 : decode cX10_needed 69 = .ok (.iload 4, 2) := by decide +kernel
theorem dX10_needed_71 : decode cX10_needed 71 = .ok (.ishl, 1) := by decide +kernel
theorem dX10_needed_72 : decode cX10_needed 72 = .ok (.goto 4, 3) := by decide +kernel
theorem dX10_needed_75 : decode cX10_needed 75 = .ok (.iconst 0, 1) := by decide +kernel
theorem dX10_needed_76 : decode cX10_needed 76 = .ok (.ior, 1) := by decide +kernel
theorem dX10_needed_77 : decode cX10_needed 77 = .ok (.istore_n 3, 1) := by decide +kernel
theorem dX10_needed_78 : decode cX10_needed 78 = .ok (.iinc 4 1, 3) := by decide +kernel
theorem dX10_needed_81 : decode cX10_needed 81 = .ok (.goto (-59), 3) := by decide +kernel
theorem dX10_needed_84 : decode cX10_needed 84 = .ok (.iload_n 3, 1) := by decide +kernel
theorem dX10_needed_85 : decode cX10_needed 85 = .ok (.ireturn, 1) := by decide +kernel
theorem dX10_by_0 : decode cX10_by 0 = .ok (.aload_n 0, 1) := by decide +kernel
theorem dX10_by_1 : decode cX10_by 1 = .ok (.iload_n 1, 1) := by decide +kernel
theorem dX10_by_2 : decode cX10_by 2 = .ok (.invokevirtual 288, 3) := by decide +kernel
theorem dX10_by_5 : decode cX10_by 5 = .ok (.ifCond .eq 15, 3) := by decide +kernel
theorem dX10_by_8 : decode cX10_by 8 = .ok (.iload_n 2, 1) := by decide +kernel
theorem dX10_by_9 : decode cX10_by 9 = .ok (.i2l, 1) := by decide +kernel
theorem dX10_by_10 : decode cX10_by 10 = .ok (.lconst 0, 1) := by decide +kernel
theorem dX10_by_11 : decode cX10_by 11 = .ok (.ldc2_w 346, 3) := by decide +kernel
theorem dX10_by_14 : decode cX10_by 14 = .ok (.invokestatic 82, 3) := by decide +kernel
theorem dX10_by_17 : decode cX10_by 17 = .ok (.ifCond .ne 6, 3) := by decide +kernel
theorem dX10_by_20 : decode cX10_by 20 = .ok (.bipush (-2), 2) := by decide +kernel
theorem dX10_by_22 : decode cX10_by 22 = .ok (.ireturn, 1) := by decide +kernel
theorem dX10_by_23 : decode cX10_by 23 = .ok (.aload_n 0, 1) := by decide +kernel
theorem dX10_by_24 : decode cX10_by 24 = .ok (.iload_n 2, 1) := by decide +kernel
theorem dX10_by_25 : decode cX10_by 25 = .ok (.putfield 267, 3) := by decide +kernel
theorem dX10_by_28 : decode cX10_by 28 = .ok (.aload_n 0, 1) := by decide +kernel
theorem dX10_by_29 : decode cX10_by 29 = .ok (.iload_n 1, 1) := by decide +kernel
theorem dX10_by_30 : decode cX10_by 30 = .ok (.invokevirtual 338, 3) := by decide +kernel
theorem dX10_by_33 : decode cX10_by 33 = .ok (.ireturn, 1) := by decide +kernel
theorem dX10_hears_0 : decode cX10_hears 0 = .ok (.aload_n 0, 1) := by decide +kernel
theorem dX10_hears_1 : decode cX10_hears 1 = .ok (.iload_n 1, 1) := by decide +kernel
theorem dX10_hears_2 : decode cX10_hears 2 = .ok (.invokevirtual 288, 3) := by decide +kernel
theorem dX10_hears_5 : decode cX10_hears 5 = .ok (.ifCond .ne 6, 3) := by decide +kernel
theorem dX10_hears_8 : decode cX10_hears 8 = .ok (.bipush (-2), 2) := by decide +kernel
theorem dX10_hears_10 : decode cX10_hears 10 = .ok (.ireturn, 1) := by decide +kernel
theorem dX10_hears_11 : decode cX10_hears 11 = .ok (.iconst 0, 1) := by decide +kernel
theorem dX10_hears_12 : decode cX10_hears 12 = .ok (.istore_n 2, 1) := by decide +kernel
theorem dX10_hears_13 : decode cX10_hears 13 = .ok (.iconst 0, 1) := by decide +kernel
theorem dX10_hears_14 : decode cX10_hears 14 = .ok (.istore_n 3, 1) := by decide +kernel
theorem dX10_hears_15 : decode cX10_hears 15 = .ok (.iload_n 3, 1) := by decide +kernel
theorem dX10_hears_16 : decode cX10_hears 16 = .ok (.aload_n 0, 1) := by decide +kernel
theorem dX10_hears_17 : decode cX10_hears 17 = .ok (.invokevirtual 244, 3) := by decide +kernel
theorem dX10_hears_20 : decode cX10_hears 20 = .ok (.if_icmp .ge 23, 3) := by decide +kernel
theorem dX10_hears_23 : decode cX10_hears 23 = .ok (.iload_n 2, 1) := by decide +kernel
theorem dX10_hears_24 : decode cX10_hears 24 = .ok (.aload_n 0, 1) := by decide +kernel
theorem dX10_hears_25 : decode cX10_hears 25 = .ok (.iload_n 3, 1) := by decide +kernel
theorem dX10_hears_26 : decode cX10_hears 26 = .ok (.invokevirtual 338, 3) := by decide +kernel
theorem dX10_hears_29 : decode cX10_hears 29 = .ok (.iload_n 1, 1) := by decide +kernel
theorem dX10_hears_30 : decode cX10_hears 30 = .ok (.invokestatic 252, 3) := by decide +kernel
theorem dX10_hears_33 : decode cX10_hears 33 = .ok (.iload_n 3, 1) := by decide +kernel
theorem dX10_hears_34 : decode cX10_hears 34 = .ok (.ishl, 1) := by decide +kernel
theorem dX10_hears_35 : decode cX10_hears 35 = .ok (.ior, 1) := by decide +kernel
theorem dX10_hears_36 : decode cX10_hears 36 = .ok (.istore_n 2, 1) := by decide +kernel
theorem dX10_hears_37 : decode cX10_hears 37 = .ok (.iinc 3 1, 3) := by decide +kernel
theorem dX10_hears_40 : decode cX10_hears 40 = .ok (.goto (-25), 3) := by decide +kernel
theorem dX10_hears_43 : decode cX10_hears 43 = .ok (.iload_n 2, 1) := by decide +kernel
theorem dX10_hears_44 : decode cX10_hears 44 = .ok (.ireturn, 1) := by decide +kernel
theorem dX10_carryState_0 : decode cX10_carryState 0 = .ok (.iload_n 0, 1) := by decide +kernel
theorem dX10_carryState_1 : decode cX10_carryState 1 = .ok (.bipush 8, 2) := by decide +kernel
theorem dX10_carryState_3 : decode cX10_carryState 3 = .ok (.imul, 1) := by decide +kernel
theorem dX10_carryState_4 : decode cX10_carryState 4 = .ok (.iload_n 1, 1) := by decide +kernel
theorem dX10_carryState_5 : decode cX10_carryState 5 = .ok (.iadd, 1) := by decide +kernel
theorem dX10_carryState_6 : decode cX10_carryState 6 = .ok (.iconst 2, 1) := by decide +kernel
theorem dX10_carryState_7 : decode cX10_carryState 7 = .ok (.imul, 1) := by decide +kernel
theorem dX10_carryState_8 : decode cX10_carryState 8 = .ok (.iload_n 2, 1) := by decide +kernel
theorem dX10_carryState_9 : decode cX10_carryState 9 = .ok (.iadd, 1) := by decide +kernel
theorem dX10_carryState_10 : decode cX10_carryState 10 = .ok (.ireturn, 1) := by decide +kernel
theorem dX10_takesIn_0 : decode cX10_takesIn 0 = .ok (.iload 4, 2) := by decide +kernel
theorem dX10_takesIn_2 : decode cX10_takesIn 2 = .ok (.ifCond .ne 25, 3) := by decide +kernel
theorem dX10_takesIn_5 : decode cX10_takesIn 5 = .ok (.aload_n 0, 1) := by decide +kernel
theorem dX10_takesIn_6 : decode cX10_takesIn 6 = .ok (.getfield 264, 3) := by decide +kernel
theorem dX10_takesIn_9 : decode cX10_takesIn 9 = .ok (.iload_n 1, 1) := by decide +kernel
theorem dX10_takesIn_10 : decode cX10_takesIn 10 = .ok (.invokestatic 252, 3) := by decide +kernel
theorem dX10_takesIn_13 : decode cX10_takesIn 13 = .ok (.iconst 1, 1) := by decide +kernel
theorem dX10_takesIn_14 : decode cX10_takesIn 14 = .ok (.if_icmp .ne 7, 3) := by decide +kernel
theorem dX10_takesIn_17 : decode cX10_takesIn 17 = .ok (.iconst 0, 1) := by decide +kernel
theorem dX10_takesIn_18 : decode cX10_takesIn 18 = .ok (.goto 18, 3) := by decide +kernel
theorem dX10_takesIn_21 : decode cX10_takesIn 21 = .ok (.iconst 1, 1) := by decide +kernel
theorem dX10_takesIn_22 : decode cX10_takesIn 22 = .ok (.iload_n 1, 1) := by decide +kernel
theorem dX10_takesIn_23 : decode cX10_takesIn 23 = .ok (.ishl, 1) := by decide +kernel
theorem dX10_takesIn_24 : decode cX10_takesIn 24 = .ok (.goto 12, 3) := by decide +kernel
theorem dX10_takesIn_27 : decode cX10_takesIn 27 = .ok (.aload_n 0, 1) := by decide +kernel
theorem dX10_takesIn_28 : decode cX10_takesIn 28 = .ok (.getfield 46, 3) := by decide +kernel
theorem dX10_takesIn_31 : decode cX10_takesIn 31 = .ok (.iload 4, 2) := by decide +kernel
theorem dX10_takesIn_33 : decode cX10_takesIn 33 = .ok (.iconst 1, 1) := by decide +kernel
theorem dX10_takesIn_34 : decode cX10_takesIn 34 = .ok (.isub, 1) := by decide +kernel
theorem dX10_takesIn_35 : decode cX10_takesIn 35 = .ok (.iaload, 1) := by decide +kernel
theorem dX10_takesIn_36 : decode cX10_takesIn 36 = .ok (.istore 5, 2) := by decide +kernel
theorem dX10_takesIn_38 : decode cX10_takesIn 38 = .ok (.iload 5, 2) := by decide +kernel
theorem dX10_takesIn_40 : decode cX10_takesIn 40 = .ok (.aload_n 0, 1) := by decide +kernel
theorem dX10_takesIn_41 : decode cX10_takesIn 41 = .ok (.iload_n 3, 1) := by decide +kernel
theorem dX10_takesIn_42 : decode cX10_takesIn 42 = .ok (.iload 4, 2) := by decide +kernel
theorem dX10_takesIn_44 : decode cX10_takesIn 44 = .ok (.invokevirtual 297, 3) := by decide +kernel
theorem dX10_takesIn_47 : decode cX10_takesIn 47 = .ok (.iand, 1) := by decide +kernel
theorem dX10_takesIn_48 : decode cX10_takesIn 48 = .ok (.iconst 1, 1) := by decide +kernel
theorem dX10_takesIn_49 : decode cX10_takesIn 49 = .ok (.iload_n 2, 1) := by decide +kernel
theorem dX10_takesIn_50 : decode cX10_takesIn 50 = .ok (.ishl, 1) := by decide +kernel
theorem dX10_takesIn_51 : decode cX10_takesIn 51 = .ok (.iconst (-1), 1) := by decide +kernel
theorem dX10_takesIn_52 : decode cX10_takesIn 52 = .ok (.ixor, 1) := by decide +kernel
theorem dX10_takesIn_53 : decode cX10_takesIn 53 = .ok (.iand, 1) := by decide +kernel
theorem dX10_takesIn_54 : decode cX10_takesIn 54 = .ok (.ifCond .eq 7, 3) := by decide +kernel
theorem dX10_takesIn_57 : decode cX10_takesIn 57 = .ok (.iconst 1, 1) := by decide +kernel
theorem dX10_takesIn_58 : decode cX10_takesIn 58 = .ok (.goto 4, 3) := by decide +kernel
theorem dX10_takesIn_61 : decode cX10_takesIn 61 = .ok (.iconst 0, 1) := by decide +kernel
theorem dX10_takesIn_62 : decode cX10_takesIn 62 = .ok (.ireturn, 1) := by decide +kernel
theorem dX10_isBeside_0 : decode cX10_isBeside 0 = .ok (.aload_n 0, 1) := by decide +kernel
theorem dX10_isBeside_1 : decode cX10_isBeside 1 = .ok (.aload_n 0, 1) := by decide +kernel
theorem dX10_isBeside_2 : decode cX10_isBeside 2 = .ok (.iload_n 1, 1) := by decide +kernel
theorem dX10_isBeside_3 : decode cX10_isBeside 3 = .ok (.invokevirtual 238, 3) := by decide +kernel
theorem dX10_isBeside_6 : decode cX10_isBeside 6 = .ok (.iload_n 2, 1) := by decide +kernel
theorem dX10_isBeside_7 : decode cX10_isBeside 7 = .ok (.iload_n 3, 1) := by decide +kernel
theorem dX10_isBeside_8 : decode cX10_isBeside 8 = .ok (.invokevirtual 233, 3) := by decide +kernel
theorem dX10_isBeside_11 : decode cX10_isBeside 11 = .ok (.iconst 1, 1) := by decide +kernel
theorem dX10_isBeside_12 : decode cX10_isBeside 12 = .ok (.if_icmp .gt 7, 3) := by decide +kernel
theorem dX10_isBeside_15 : decode cX10_isBeside 15 = .ok (.iconst 1, 1) := by decide +kernel
theorem dX10_isBeside_16 : decode cX10_isBeside 16 = .ok (.goto 4, 3) := by decide +kernel
theorem dX10_isBeside_19 : decode cX10_isBeside 19 = .ok (.iconst 0, 1) := by decide +kernel
theorem dX10_isBeside_20 : decode cX10_isBeside 20 = .ok (.ireturn, 1) := by decide +kernel
theorem dX10_layCarry_0 : decode cX10_layCarry 0 = .ok (.iload 4, 2) := by decide +kernel
theorem dX10_layCarry_2 : decode cX10_layCarry 2 = .ok (.istore 5, 2) := by decide +kernel
theorem dX10_layCarry_4 : decode cX10_layCarry 4 = .ok (.iload 5, 2) := by decide +kernel
theorem dX10_layCarry_6 : decode cX10_layCarry 6 = .ok (.ifCond .lt 187, 3) := by decide +kernel
theorem dX10_layCarry_9 : decode cX10_layCarry 9 = .ok (.iconst 0, 1) := by decide +kernel
theorem dX10_layCarry_10 : decode cX10_layCarry 10 = .ok (.istore 6, 2) := by decide +kernel
theorem dX10_layCarry_12 : decode cX10_layCarry 12 = .ok (.iload 6, 2) := by decide +kernel
theorem dX10_layCarry_14 : decode cX10_layCarry 14 = .ok (.iconst 2, 1) := by decide +kernel
theorem dX10_layCarry_15 : decode cX10_layCarry 15 = .ok (.aload_n 0, 1) := by decide +kernel
theorem dX10_layCarry_16 : decode cX10_layCarry 16 = .ok (.getfield 9, 3) := by decide +kernel
theorem dX10_layCarry_19 : decode cX10_layCarry 19 = .ok (.iconst 0, 1) := by decide +kernel
theorem dX10_layCarry_20 : decode cX10_layCarry 20 = .ok (.iaload, 1) := by decide +kernel
theorem dX10_layCarry_21 : decode cX10_layCarry 21 = .ok (.imul, 1) := by decide +kernel
theorem dX10_layCarry_22 : decode cX10_layCarry 22 = .ok (.if_icmp .ge 165, 3) := by decide +kernel
theorem dX10_layCarry_25 : decode cX10_layCarry 25 = .ok (.iload 6, 2) := by decide +kernel
theorem dX10_layCarry_27 : decode cX10_layCarry 27 = .ok (.iconst 2, 1) := by decide +kernel
theorem dX10_layCarry_28 : decode cX10_layCarry 28 = .ok (.idiv, 1) := by decide +kernel
theorem dX10_layCarry_29 : decode cX10_layCarry 29 = .ok (.istore 7, 2) := by decide +kernel
theorem dX10_layCarry_31 : decode cX10_layCarry 31 = .ok (.iload 6, 2) := by decide +kernel
theorem dX10_layCarry_33 : decode cX10_layCarry 33 = .ok (.iconst 2, 1) := by decide +kernel
theorem dX10_layCarry_34 : decode cX10_layCarry 34 = .ok (.irem, 1) := by decide +kernel
theorem dX10_layCarry_35 : decode cX10_layCarry 35 = .ok (.istore 8, 2) := by decide +kernel
theorem dX10_layCarry_37 : decode cX10_layCarry 37 = .ok (.iload 5, 2) := by decide +kernel
theorem dX10_layCarry_39 : decode cX10_layCarry 39 = .ok (.iload 4, 2) := by decide +kernel
theorem dX10_layCarry_41 : decode cX10_layCarry 41 = .ok (.if_icmp .ne 25, 3) := by decide +kernel
theorem dX10_layCarry_44 : decode cX10_layCarry 44 = .ok (.iload 8, 2) := by decide +kernel
theorem dX10_layCarry_46 : decode cX10_layCarry 46 = .ok (.iconst 1, 1) := by decide +kernel
theorem dX10_layCarry_47 : decode cX10_layCarry 47 = .ok (.if_icmp .ne 19, 3) := by decide +kernel
theorem dX10_layCarry_50 : decode cX10_layCarry 50 = .ok (.aload_n 0, 1) := by decide +kernel
theorem dX10_layCarry_51 : decode cX10_layCarry 51 = .ok (.iload_n 3, 1) := by decide +kernel
theorem dX10_layCarry_52 : decode cX10_layCarry 52 = .ok (.iload 5, 2) := by decide +kernel
theorem dX10_layCarry_54 : decode cX10_layCarry 54 = .ok (.invokevirtual 255, 3) := by decide +kernel
theorem dX10_layCarry_57 : decode cX10_layCarry 57 = .ok (.iload 7, 2) := by decide +kernel
theorem dX10_layCarry_59 : decode cX10_layCarry 59 = .ok (.if_icmp .ne 7, 3) := by decide +kernel
theorem dX10_layCarry_62 : decode cX10_layCarry 62 = .ok (.iconst 1, 1) := by decide +kernel
theorem dX10_layCarry_63 : decode cX10_layCarry 63 = .ok (.goto 4, 3) := by decide +kernel
theorem dX10_layCarry_66 : decode cX10_layCarry 66 = .ok (.iconst 0, 1) := by decide +kernel
theorem dX10_layCarry_67 : decode cX10_layCarry 67 = .ok (.istore 9, 2) := by decide +kernel
theorem dX10_layCarry_69 : decode cX10_layCarry 69 = .ok (.iload 8, 2) := by decide +kernel
theorem dX10_layCarry_71 : decode cX10_layCarry 71 = .ok (.iconst 1, 1) := by decide +kernel
theorem dX10_layCarry_72 : decode cX10_layCarry 72 = .ok (.if_icmp .eq 16, 3) := by decide +kernel
theorem dX10_layCarry_75 : decode cX10_layCarry 75 = .ok (.aload_n 0, 1) := by decide +kernel
theorem dX10_layCarry_76 : decode cX10_layCarry 76 = .ok (.iload_n 1, 1) := by decide +kernel
theorem dX10_layCarry_77 : decode cX10_layCarry 77 = .ok (.iload_n 2, 1) := by decide +kernel
theorem dX10_layCarry_78 : decode cX10_layCarry 78 = .ok (.iload 7, 2) := by decide +kernel
theorem dX10_layCarry_80 : decode cX10_layCarry 80 = .ok (.iload 5, 2) := by decide +kernel
theorem dX10_layCarry_82 : decode cX10_layCarry 82 = .ok (.invokevirtual 348, 3) := by decide +kernel
theorem dX10_layCarry_85 : decode cX10_layCarry 85 = .ok (.ifCond .eq 7, 3) := by decide +kernel
theorem dX10_layCarry_88 : decode cX10_layCarry 88 = .ok (.iconst 1, 1) := by decide +kernel
theorem dX10_layCarry_89 : decode cX10_layCarry 89 = .ok (.goto 4, 3) := by decide +kernel
theorem dX10_layCarry_92 : decode cX10_layCarry 92 = .ok (.iconst 0, 1) := by decide +kernel
theorem dX10_layCarry_93 : decode cX10_layCarry 93 = .ok (.istore 10, 2) := by decide +kernel
theorem dX10_layCarry_95 : decode cX10_layCarry 95 = .ok (.iconst 0, 1) := by decide +kernel
theorem dX10_layCarry_96 : decode cX10_layCarry 96 = .ok (.istore 11, 2) := by decide +kernel
theorem dX10_layCarry_98 : decode cX10_layCarry 98 = .ok (.iload 11, 2) := by decide +kernel
theorem dX10_layCarry_100 : decode cX10_layCarry 100 = .ok (.aload_n 0, 1) := by decide +kernel
theorem dX10_layCarry_101 : decode cX10_layCarry 101 = .ok (.getfield 9, 3) := by decide +kernel
theorem dX10_layCarry_104 : decode cX10_layCarry 104 = .ok (.iconst 0, 1) := by decide +kernel
theorem dX10_layCarry_105 : decode cX10_layCarry 105 = .ok (.iaload, 1) := by decide +kernel
theorem dX10_layCarry_106 : decode cX10_layCarry 106 = .ok (.if_icmp .ge 59, 3) := by decide +kernel
theorem dX10_layCarry_109 : decode cX10_layCarry 109 = .ok (.iload 5, 2) := by decide +kernel
theorem dX10_layCarry_111 : decode cX10_layCarry 111 = .ok (.iload 4, 2) := by decide +kernel
theorem dX10_layCarry_113 : decode cX10_layCarry 113 = .ok (.if_icmp .ge 52, 3) := by decide +kernel
theorem dX10_layCarry_116 : decode cX10_layCarry 116 = .ok (.iload 9, 2) := by decide +kernel
theorem dX10_layCarry_118 : decode cX10_layCarry 118 = .ok (.ifCond .ne 34, 3) := by decide +kernel
theorem dX10_layCarry_121 : decode cX10_layCarry 121 = .ok (.aload_n 0, 1) := by decide +kernel
theorem dX10_layCarry_122 : decode cX10_layCarry 122 = .ok (.iload_n 2, 1) := by decide +kernel
theorem dX10_layCarry_123 : decode cX10_layCarry 123 = .ok (.iload 7, 2) := by decide +kernel
theorem dX10_layCarry_125 : decode cX10_layCarry 125 = .ok (.iload 11, 2) := by decide +kernel
theorem dX10_layCarry_127 : decode cX10_layCarry 127 = .ok (.invokevirtual 352, 3) := by decide +kernel
theorem dX10_layCarry_130 : decode cX10_layCarry 130 = .ok (.ifCond .eq 26, 3) := by decide +kernel
theorem dX10_layCarry_133 : decode cX10_layCarry 133 = .ok (.aload_n 0, 1) := by decide +kernel
theorem dX10_layCarry_134 : decode cX10_layCarry 134 = .ok (.getfield 55, 3) := by decide +kernel
theorem dX10_layCarry_137 : decode cX10_layCarry 137 = .ok (.iload 5, 2) := by decide +kernel
theorem dX10_layCarry_139 : decode cX10_layCarry 139 = .ok (.iconst 1, 1) := by decide +kernel
theorem dX10_layCarry_140 : decode cX10_layCarry 140 = .ok (.iadd, 1) := by decide +kernel
theorem dX10_layCarry_141 : decode cX10_layCarry 141 = .ok (.iload 11, 2) := by decide +kernel
theorem dX10_layCarry_143 : decode cX10_layCarry 143 = .ok (.iload 10, 2) := by decide +kernel
theorem dX10_layCarry_145 : decode cX10_layCarry 145 = .ok (.invokestatic 355, 3) := by decide +kernel
theorem dX10_layCarry_148 : decode cX10_layCarry 148 = .ok (.baload, 1) := by decide +kernel
theorem dX10_layCarry_149 : decode cX10_layCarry 149 = .ok (.ifCond .eq 7, 3) := by decide +kernel
theorem dX10_layCarry_152 : decode cX10_layCarry 152 = .ok (.iconst 1, 1) := by decide +kernel
theorem dX10_layCarry_153 : decode cX10_layCarry 153 = .ok (.goto 4, 3) := by decide +kernel
theorem dX10_layCarry_156 : decode cX10_layCarry 156 = .ok (.iconst 0, 1) := by decide +kernel
theorem dX10_layCarry_157 : decode cX10_layCarry 157 = .ok (.istore 9, 2) := by decide +kernel
theorem dX10_layCarry_159 : decode cX10_layCarry 159 = .ok (.iinc 11 1, 3) := by decide +kernel
theorem dX10_layCarry_162 : decode cX10_layCarry 162 = .ok (.goto (-64), 3) := by decide +kernel
theorem dX10_layCarry_165 : decode cX10_layCarry 165 = .ok (.aload_n 0, 1) := by decide +kernel
theorem dX10_layCarry_166 : decode cX10_layCarry 166 = .ok (.getfield 55, 3) := by decide +kernel
theorem dX10_layCarry_169 : decode cX10_layCarry 169 = .ok (.iload 5, 2) := by decide +kernel
theorem dX10_layCarry_171 : decode cX10_layCarry 171 = .ok (.iload 7, 2) := by decide +kernel
theorem dX10_layCarry_173 : decode cX10_layCarry 173 = .ok (.iload 8, 2) := by decide +kernel
theorem dX10_layCarry_175 : decode cX10_layCarry 175 = .ok (.invokestatic 355, 3) := by decide +kernel
theorem dX10_layCarry_178 : decode cX10_layCarry 178 = .ok (.iload 9, 2) := by decide +kernel
theorem dX10_layCarry_180 : decode cX10_layCarry 180 = .ok (.bastore, 1) := by decide +kernel
theorem dX10_layCarry_181 : decode cX10_layCarry 181 = .ok (.iinc 6 1, 3) := by decide +kernel
theorem dX10_layCarry_184 : decode cX10_layCarry 184 = .ok (.goto (-172), 3) := by decide +kernel
theorem dX10_layCarry_187 : decode cX10_layCarry 187 = .ok (.iinc 5 (-1), 3) := by decide +kernel
theorem dX10_layCarry_190 : decode cX10_layCarry 190 = .ok (.goto (-186), 3) := by decide +kernel
theorem dX10_layCarry_193 : decode cX10_layCarry 193 = .ok (.return_, 1) := by decide +kernel
theorem dX10_layWalk_0 : decode cX10_layWalk 0 = .ok (.aload_n 0, 1) := by decide +kernel
theorem dX10_layWalk_1 : decode cX10_layWalk 1 = .ok (.iconst 1, 1) := by decide +kernel
theorem dX10_layWalk_2 : decode cX10_layWalk 2 = .ok (.iload_n 2, 1) := by decide +kernel
theorem dX10_layWalk_3 : decode cX10_layWalk 3 = .ok (.ishl, 1) := by decide +kernel
theorem dX10_layWalk_4 : decode cX10_layWalk 4 = .ok (.putfield 264, 3) := by decide +kernel
theorem dX10_layWalk_7 : decode cX10_layWalk 7 = .ok (.aload_n 0, 1) := by decide +kernel
theorem dX10_layWalk_8 : decode cX10_layWalk 8 = .ok (.iload_n 1, 1) := by decide +kernel
theorem dX10_layWalk_9 : decode cX10_layWalk 9 = .ok (.invokevirtual 338, 3) := by decide +kernel
theorem dX10_layWalk_12 : decode cX10_layWalk 12 = .ok (.pop, 1) := by decide +kernel
theorem dX10_layWalk_13 : decode cX10_layWalk 13 = .ok (.iload_n 1, 1) := by decide +kernel
theorem dX10_layWalk_14 : decode cX10_layWalk 14 = .ok (.iload_n 2, 1) := by decide +kernel
theorem dX10_layWalk_15 : decode cX10_layWalk 15 = .ok (.if_icmp .ne 7, 3) := by decide +kernel
theorem dX10_layWalk_18 : decode cX10_layWalk 18 = .ok (.iconst 1, 1) := by decide +kernel
theorem dX10_layWalk_19 : decode cX10_layWalk 19 = .ok (.goto 4, 3) := by decide +kernel
theorem dX10_layWalk_22 : decode cX10_layWalk 22 = .ok (.iconst 0, 1) := by decide +kernel
theorem dX10_layWalk_23 : decode cX10_layWalk 23 = .ok (.istore 4, 2) := by decide +kernel
theorem dX10_layWalk_25 : decode cX10_layWalk 25 = .ok (.aload_n 0, 1) := by decide +kernel
theorem dX10_layWalk_26 : decode cX10_layWalk 26 = .ok (.getfield 9, 3) := by decide +kernel
theorem dX10_layWalk_29 : decode cX10_layWalk 29 = .ok (.bipush 46, 2) := by decide +kernel
theorem dX10_layWalk_31 : decode cX10_layWalk 31 = .ok (.iconst 2, 1) := by decide +kernel
theorem dX10_layWalk_32 : decode cX10_layWalk 32 = .ok (.iload_n 2, 1) := by decide +kernel
theorem dX10_layWalk_33 : decode cX10_layWalk 33 = .ok (.imul, 1) := by decide +kernel
theorem dX10_layWalk_34 : decode cX10_layWalk 34 = .ok (.iadd, 1) := by decide +kernel
theorem dX10_layWalk_35 : decode cX10_layWalk 35 = .ok (.iaload, 1) := by decide +kernel
theorem dX10_layWalk_36 : decode cX10_layWalk 36 = .ok (.istore 5, 2) := by decide +kernel
theorem dX10_layWalk_38 : decode cX10_layWalk 38 = .ok (.iconst 0, 1) := by decide +kernel
theorem dX10_layWalk_39 : decode cX10_layWalk 39 = .ok (.istore 6, 2) := by decide +kernel
theorem dX10_layWalk_41 : decode cX10_layWalk 41 = .ok (.aload_n 0, 1) := by decide +kernel
theorem dX10_layWalk_42 : decode cX10_layWalk 42 = .ok (.iload_n 1, 1) := by decide +kernel
theorem dX10_layWalk_43 : decode cX10_layWalk 43 = .ok (.iload_n 2, 1) := by decide +kernel
theorem dX10_layWalk_44 : decode cX10_layWalk 44 = .ok (.iload_n 3, 1) := by decide +kernel
theorem dX10_layWalk_45 : decode cX10_layWalk 45 = .ok (.iload 6, 2) := by decide +kernel
theorem dX10_layWalk_47 : decode cX10_layWalk 47 = .ok (.invokevirtual 358, 3) := by decide +kernel
theorem dX10_layWalk_50 : decode cX10_layWalk 50 = .ok (.iload 6, 2) := by decide +kernel
theorem dX10_layWalk_52 : decode cX10_layWalk 52 = .ok (.aload_n 0, 1) := by decide +kernel
theorem dX10_layWalk_53 : decode cX10_layWalk 53 = .ok (.invokevirtual 247, 3) := by decide +kernel
theorem dX10_layWalk_56 : decode cX10_layWalk 56 = .ok (.if_icmp .ge 34, 3) := by decide +kernel
theorem dX10_layWalk_59 : decode cX10_layWalk 59 = .ok (.aload_n 0, 1) := by decide +kernel
theorem dX10_layWalk_60 : decode cX10_layWalk 60 = .ok (.getfield 55, 3) := by decide +kernel
theorem dX10_layWalk_63 : decode cX10_layWalk 63 = .ok (.iconst 0, 1) := by decide +kernel
theorem dX10_layWalk_64 : decode cX10_layWalk 64 = .ok (.iload 5, 2) := by decide +kernel
theorem dX10_layWalk_66 : decode cX10_layWalk 66 = .ok (.iload 4, 2) := by decide +kernel
theorem dX10_layWalk_68 : decode cX10_layWalk 68 = .ok (.invokestatic 355, 3) := by decide +kernel
theorem dX10_layWalk_71 : decode cX10_layWalk 71 = .ok (.baload, 1) := by decide +kernel
theorem dX10_layWalk_72 : decode cX10_layWalk 72 = .ok (.ifCond .ne 18, 3) := by decide +kernel
theorem dX10_layWalk_75 : decode cX10_layWalk 75 = .ok (.iinc 6 1, 3) := by decide +kernel
theorem dX10_layWalk_78 : decode cX10_layWalk 78 = .ok (.aload_n 0, 1) := by decide +kernel
theorem dX10_layWalk_79 : decode cX10_layWalk 79 = .ok (.iload_n 1, 1) := by decide +kernel
theorem dX10_layWalk_80 : decode cX10_layWalk 80 = .ok (.iload_n 2, 1) := by decide +kernel
theorem dX10_layWalk_81 : decode cX10_layWalk 81 = .ok (.iload_n 3, 1) := by decide +kernel
theorem dX10_layWalk_82 : decode cX10_layWalk 82 = .ok (.iload 6, 2) := by decide +kernel
theorem dX10_layWalk_84 : decode cX10_layWalk 84 = .ok (.invokevirtual 358, 3) := by decide +kernel
theorem dX10_layWalk_87 : decode cX10_layWalk 87 = .ok (.goto (-37), 3) := by decide +kernel
theorem dX10_layWalk_90 : decode cX10_layWalk 90 = .ok (.aload_n 0, 1) := by decide +kernel
theorem dX10_layWalk_91 : decode cX10_layWalk 91 = .ok (.getfield 55, 3) := by decide +kernel
theorem dX10_layWalk_94 : decode cX10_layWalk 94 = .ok (.iconst 0, 1) := by decide +kernel
theorem dX10_layWalk_95 : decode cX10_layWalk 95 = .ok (.iload 5, 2) := by decide +kernel
theorem dX10_layWalk_97 : decode cX10_layWalk 97 = .ok (.iload 4, 2) := by decide +kernel
theorem dX10_layWalk_99 : decode cX10_layWalk 99 = .ok (.invokestatic 355, 3) := by decide +kernel
theorem dX10_layWalk_102 : decode cX10_layWalk 102 = .ok (.baload, 1) := by decide +kernel
theorem dX10_layWalk_103 : decode cX10_layWalk 103 = .ok (.ifCond .ne 5, 3) := by decide +kernel
theorem dX10_layWalk_106 : decode cX10_layWalk 106 = .ok (.iconst (-1), 1) := by decide +kernel
theorem dX10_layWalk_107 : decode cX10_layWalk 107 = .ok (.ireturn, 1) := by decide +kernel
theorem dX10_layWalk_108 : decode cX10_layWalk 108 = .ok (.iconst 0, 1) := by decide +kernel
theorem dX10_layWalk_109 : decode cX10_layWalk 109 = .ok (.istore 7, 2) := by decide +kernel
theorem dX10_layWalk_111 : decode cX10_layWalk 111 = .ok (.iload 7, 2) := by decide +kernel
theorem dX10_layWalk_113 : decode cX10_layWalk 113 = .ok (.aload_n 0, 1) := by decide +kernel
theorem dX10_layWalk_114 : decode cX10_layWalk 114 = .ok (.invokevirtual 247, 3) := by decide +kernel
theorem dX10_layWalk_117 : decode cX10_layWalk 117 = .ok (.if_icmp .gt 98, 3) := by decide +kernel
theorem dX10_layWalk_120 : decode cX10_layWalk 120 = .ok (.aload_n 0, 1) := by decide +kernel
theorem dX10_layWalk_121 : decode cX10_layWalk 121 = .ok (.getfield 58, 3) := by decide +kernel
theorem dX10_layWalk_124 : decode cX10_layWalk 124 = .ok (.iload 7, 2) := by decide +kernel
theorem dX10_layWalk_126 : decode cX10_layWalk 126 = .ok (.iload 5, 2) := by decide +kernel
theorem dX10_layWalk_128 : decode cX10_layWalk 128 = .ok (.iastore, 1) := by decide +kernel
theorem dX10_layWalk_129 : decode cX10_layWalk 129 = .ok (.iload 7, 2) := by decide +kernel
theorem dX10_layWalk_131 : decode cX10_layWalk 131 = .ok (.iload 6, 2) := by decide +kernel
theorem dX10_layWalk_133 : decode cX10_layWalk 133 = .ok (.if_icmp .lt 6, 3) := by decide +kernel
theorem dX10_layWalk_136 : decode cX10_layWalk 136 = .ok (.goto 73, 3) := by decide +kernel
theorem dX10_layWalk_139 : decode cX10_layWalk 139 = .ok (.iload 4, 2) := by decide +kernel
theorem dX10_layWalk_141 : decode cX10_layWalk 141 = .ok (.iconst 1, 1) := by decide +kernel
theorem dX10_layWalk_142 : decode cX10_layWalk 142 = .ok (.if_icmp .eq 16, 3) := by decide +kernel
theorem dX10_layWalk_145 : decode cX10_layWalk 145 = .ok (.aload_n 0, 1) := by decide +kernel
theorem dX10_layWalk_146 : decode cX10_layWalk 146 = .ok (.iload_n 1, 1) := by decide +kernel
theorem dX10_layWalk_147 : decode cX10_layWalk 147 = .ok (.iload_n 2, 1) := by decide +kernel
theorem dX10_layWalk_148 : decode cX10_layWalk 148 = .ok (.iload 5, 2) := by decide +kernel
theorem dX10_layWalk_150 : decode cX10_layWalk 150 = .ok (.iload 7, 2) := by decide +kernel
theorem dX10_layWalk_152 : decode cX10_layWalk 152 = .ok (.invokevirtual 348, 3) := by decide +kernel
theorem dX10_layWalk_155 : decode cX10_layWalk 155 = .ok (.ifCond .eq 7, 3) := by decide +kernel
theorem dX10_layWalk_158 : decode cX10_layWalk 158 = .ok (.iconst 1, 1) := by decide +kernel
theorem dX10_layWalk_159 : decode cX10_layWalk 159 = .ok (.goto 4, 3) := by decide +kernel
theorem dX10_layWalk_162 : decode cX10_layWalk 162 = .ok (.iconst 0, 1) := by decide +kernel
theorem dX10_layWalk_163 : decode cX10_layWalk 163 = .ok (.istore 4, 2) := by decide +kernel
theorem dX10_layWalk_165 : decode cX10_layWalk 165 = .ok (.iconst 0, 1) := by decide +kernel
theorem dX10_layWalk_166 : decode cX10_layWalk 166 = .ok (.istore 8, 2) := by decide +kernel
theorem dX10_layWalk_168 : decode cX10_layWalk 168 = .ok (.aload_n 0, 1) := by decide +kernel
theorem dX10_layWalk_169 : decode cX10_layWalk 169 = .ok (.iload_n 2, 1) := by decide +kernel
theorem dX10_layWalk_170 : decode cX10_layWalk 170 = .ok (.iload 5, 2) := by decide +kernel
theorem dX10_layWalk_172 : decode cX10_layWalk 172 = .ok (.iload 8, 2) := by decide +kernel
theorem dX10_layWalk_174 : decode cX10_layWalk 174 = .ok (.invokevirtual 352, 3) := by decide +kernel
theorem dX10_layWalk_177 : decode cX10_layWalk 177 = .ok (.ifCond .eq 22, 3) := by decide +kernel
theorem dX10_layWalk_180 : decode cX10_layWalk 180 = .ok (.aload_n 0, 1) := by decide +kernel
theorem dX10_layWalk_181 : decode cX10_layWalk 181 = .ok (.getfield 55, 3) := by decide +kernel
theorem dX10_layWalk_184 : decode cX10_layWalk 184 = .ok (.iload 7, 2) := by decide +kernel
theorem dX10_layWalk_186 : decode cX10_layWalk 186 = .ok (.iconst 1, 1) := by decide +kernel
theorem dX10_layWalk_187 : decode cX10_layWalk 187 = .ok (.iadd, 1) := by decide +kernel
theorem dX10_layWalk_188 : decode cX10_layWalk 188 = .ok (.iload 8, 2) := by decide +kernel
theorem dX10_layWalk_190 : decode cX10_layWalk 190 = .ok (.iload 4, 2) := by decide +kernel
theorem dX10_layWalk_192 : decode cX10_layWalk 192 = .ok (.invokestatic 355, 3) := by decide +kernel
theorem dX10_layWalk_195 : decode cX10_layWalk 195 = .ok (.baload, 1) := by decide +kernel
theorem dX10_layWalk_196 : decode cX10_layWalk 196 = .ok (.ifCond .ne 9, 3) := by decide +kernel
theorem dX10_layWalk_199 : decode cX10_layWalk 199 = .ok (.iinc 8 1, 3) := by decide +kernel
theorem dX10_layWalk_202 : decode cX10_layWalk 202 = .ok (.goto (-34), 3) := by decide +kernel
theorem dX10_layWalk_205 : decode cX10_layWalk 205 = .ok (.iload 8, 2) := by decide +kernel
theorem dX10_layWalk_207 : decode cX10_layWalk 207 = .ok (.istore 5, 2) := by decide +kernel
theorem dX10_layWalk_209 : decode cX10_layWalk 209 = .ok (.iinc 7 1, 3) := by decide +kernel
theorem dX10_layWalk_212 : decode cX10_layWalk 212 = .ok (.goto (-101), 3) := by decide +kernel
theorem dX10_layWalk_215 : decode cX10_layWalk 215 = .ok (.iload 6, 2) := by decide +kernel
theorem dX10_layWalk_217 : decode cX10_layWalk 217 = .ok (.ireturn, 1) := by decide +kernel
theorem dX10_asksCarry_0 : decode cX10_asksCarry 0 = .ok (.aload_n 0, 1) := by decide +kernel
theorem dX10_asksCarry_1 : decode cX10_asksCarry 1 = .ok (.iload_n 1, 1) := by decide +kernel
theorem dX10_asksCarry_2 : decode cX10_asksCarry 2 = .ok (.invokevirtual 288, 3) := by decide +kernel
theorem dX10_asksCarry_5 : decode cX10_asksCarry 5 = .ok (.ifCond .eq 30, 3) := by decide +kernel
theorem dX10_asksCarry_8 : decode cX10_asksCarry 8 = .ok (.aload_n 0, 1) := by decide +kernel
theorem dX10_asksCarry_9 : decode cX10_asksCarry 9 = .ok (.iload_n 2, 1) := by decide +kernel
theorem dX10_asksCarry_10 : decode cX10_asksCarry 10 = .ok (.i2l, 1) := by decide +kernel
theorem dX10_asksCarry_11 : decode cX10_asksCarry 11 = .ok (.invokevirtual 222, 3) := by decide +kernel
theorem dX10_asksCarry_14 : decode cX10_asksCarry 14 = .ok (.ifCond .eq 21, 3) := by decide +kernel
theorem dX10_asksCarry_17 : decode cX10_asksCarry 17 = .ok (.aload_n 0, 1) := by decide +kernel
theorem dX10_asksCarry_18 : decode cX10_asksCarry 18 = .ok (.iload_n 3, 1) := by decide +kernel
theorem dX10_asksCarry_19 : decode cX10_asksCarry 19 = .ok (.i2l, 1) := by decide +kernel
theorem dX10_asksCarry_20 : decode cX10_asksCarry 20 = .ok (.invokevirtual 222, 3) := by decide +kernel
theorem dX10_asksCarry_23 : decode cX10_asksCarry 23 = .ok (.ifCond .eq 12, 3) := by decide +kernel
theorem dX10_asksCarry_26 : decode cX10_asksCarry 26 = .ok (.iload_n 2, 1) := by decide +kernel
theorem dX10_asksCarry_27 : decode cX10_asksCarry 27 = .ok (.iload_n 3, 1) := by decide +kernel
theorem dX10_asksCarry_28 : decode cX10_asksCarry 28 = .ok (.if_icmp .eq 7, 3) := by decide +kernel
theorem dX10_asksCarry_31 : decode cX10_asksCarry 31 = .ok (.iconst 1, 1) := by decide +kernel
theorem dX10_asksCarry_32 : decode cX10_asksCarry 32 = .ok (.goto 4, 3) := by decide +kernel
theorem dX10_asksCarry_35 : decode cX10_asksCarry 35 = .ok (.iconst 0, 1) := by decide +kernel
theorem dX10_asksCarry_36 : decode cX10_asksCarry 36 = .ok (.ireturn, 1) := by decide +kernel
theorem dX10_carry_0 : decode cX10_carry 0 = .ok (.aload_n 0, 1) := by decide +kernel
theorem dX10_carry_1 : decode cX10_carry 1 = .ok (.iload_n 1, 1) := by decide +kernel
theorem dX10_carry_2 : decode cX10_carry 2 = .ok (.iload_n 2, 1) := by decide +kernel
theorem dX10_carry_3 : decode cX10_carry 3 = .ok (.iload_n 3, 1) := by decide +kernel
theorem dX10_carry_4 : decode cX10_carry 4 = .ok (.invokevirtual 362, 3) := by decide +kernel
theorem dX10_carry_7 : decode cX10_carry 7 = .ok (.ifCond .eq 13, 3) := by decide +kernel
theorem dX10_carry_10 : decode cX10_carry 10 = .ok (.aload_n 0, 1) := by decide +kernel
theorem dX10_carry_11 : decode cX10_carry 11 = .ok (.iload_n 1, 1) := by decide +kernel
theorem dX10_carry_12 : decode cX10_carry 12 = .ok (.iload_n 2, 1) := by decide +kernel
theorem dX10_carry_13 : decode cX10_carry 13 = .ok (.iload_n 3, 1) := by decide +kernel
theorem dX10_carry_14 : decode cX10_carry 14 = .ok (.invokevirtual 365, 3) := by decide +kernel
theorem dX10_carry_17 : decode cX10_carry 17 = .ok (.goto 5, 3) := by decide +kernel
theorem dX10_carry_20 : decode cX10_carry 20 = .ok (.bipush (-2), 2) := by decide +kernel
theorem dX10_carry_22 : decode cX10_carry 22 = .ok (.ireturn, 1) := by decide +kernel
theorem dX10_walk_0 : decode cX10_walk 0 = .ok (.aload_n 0, 1) := by decide +kernel
theorem dX10_walk_1 : decode cX10_walk 1 = .ok (.iload_n 1, 1) := by decide +kernel
theorem dX10_walk_2 : decode cX10_walk 2 = .ok (.iload_n 2, 1) := by decide +kernel
theorem dX10_walk_3 : decode cX10_walk 3 = .ok (.iload_n 3, 1) := by decide +kernel
theorem dX10_walk_4 : decode cX10_walk 4 = .ok (.invokevirtual 362, 3) := by decide +kernel
theorem dX10_walk_7 : decode cX10_walk 7 = .ok (.ifCond .eq 13, 3) := by decide +kernel
theorem dX10_walk_10 : decode cX10_walk 10 = .ok (.aload_n 0, 1) := by decide +kernel
theorem dX10_walk_11 : decode cX10_walk 11 = .ok (.iload 4, 2) := by decide +kernel
theorem dX10_walk_13 : decode cX10_walk 13 = .ok (.i2l, 1) := by decide +kernel
theorem dX10_walk_14 : decode cX10_walk 14 = .ok (.invokevirtual 282, 3) := by decide +kernel
theorem dX10_walk_17 : decode cX10_walk 17 = .ok (.ifCond .ne 6, 3) := by decide +kernel
theorem dX10_walk_20 : decode cX10_walk 20 = .ok (.bipush (-2), 2) := by decide +kernel
theorem dX10_walk_22 : decode cX10_walk 22 = .ok (.ireturn, 1) := by decide +kernel
theorem dX10_walk_23 : decode cX10_walk 23 = .ok (.aload_n 0, 1) := by decide +kernel
theorem dX10_walk_24 : decode cX10_walk 24 = .ok (.iload_n 1, 1) := by decide +kernel
theorem dX10_walk_25 : decode cX10_walk 25 = .ok (.iload_n 2, 1) := by decide +kernel
theorem dX10_walk_26 : decode cX10_walk 26 = .ok (.iload_n 3, 1) := by decide +kernel
theorem dX10_walk_27 : decode cX10_walk 27 = .ok (.invokevirtual 365, 3) := by decide +kernel
theorem dX10_walk_30 : decode cX10_walk 30 = .ok (.iconst (-1), 1) := by decide +kernel
theorem dX10_walk_31 : decode cX10_walk 31 = .ok (.if_icmp .ne 7, 3) := by decide +kernel
theorem dX10_walk_34 : decode cX10_walk 34 = .ok (.iconst (-1), 1) := by decide +kernel
theorem dX10_walk_35 : decode cX10_walk 35 = .ok (.goto 10, 3) := by decide +kernel
theorem dX10_walk_38 : decode cX10_walk 38 = .ok (.aload_n 0, 1) := by decide +kernel
theorem dX10_walk_39 : decode cX10_walk 39 = .ok (.getfield 58, 3) := by decide +kernel
theorem dX10_walk_42 : decode cX10_walk 42 = .ok (.iload 4, 2) := by decide +kernel
theorem dX10_walk_44 : decode cX10_walk 44 = .ok (.iaload, 1) := by decide +kernel
theorem dX10_walk_45 : decode cX10_walk 45 = .ok (.ireturn, 1) := by decide +kernel
theorem dX10_haveWith_0 : decode cX10_haveWith 0 = .ok (.aload_n 0, 1) := by decide +kernel
theorem dX10_haveWith_1 : decode cX10_haveWith 1 = .ok (.iload_n 2, 1) := by decide +kernel
theorem dX10_haveWith_2 : decode cX10_haveWith 2 = .ok (.putfield 227, 3) := by decide +kernel
theorem dX10_haveWith_5 : decode cX10_haveWith 5 = .ok (.aload_n 0, 1) := by decide +kernel
theorem dX10_haveWith_6 : decode cX10_haveWith 6 = .ok (.iload_n 3, 1) := by decide +kernel
theorem dX10_haveWith_7 : decode cX10_haveWith 7 = .ok (.putfield 230, 3) := by decide +kernel
theorem dX10_haveWith_10 : decode cX10_haveWith 10 = .ok (.aload_n 0, 1) := by decide +kernel
theorem dX10_haveWith_11 : decode cX10_haveWith 11 = .ok (.invokevirtual 276, 3) := by decide +kernel
theorem dX10_haveWith_14 : decode cX10_haveWith 14 = .ok (.aload_n 0, 1) := by decide +kernel
theorem dX10_haveWith_15 : decode cX10_haveWith 15 = .ok (.iload_n 1, 1) := by decide +kernel
theorem dX10_haveWith_16 : decode cX10_haveWith 16 = .ok (.invokevirtual 338, 3) := by decide +kernel
theorem dX10_haveWith_19 : decode cX10_haveWith 19 = .ok (.ireturn, 1) := by decide +kernel
theorem dX10_widen_0 : decode cX10_widen 0 = .ok (.aload_n 0, 1) := by decide +kernel
theorem dX10_widen_1 : decode cX10_widen 1 = .ok (.iload_n 1, 1) := by decide +kernel
theorem dX10_widen_2 : decode cX10_widen 2 = .ok (.invokevirtual 288, 3) := by decide +kernel
theorem dX10_widen_5 : decode cX10_widen 5 = .ok (.ifCond .eq 11, 3) := by decide +kernel
theorem dX10_widen_8 : decode cX10_widen 8 = .ok (.aload_n 0, 1) := by decide +kernel
theorem dX10_widen_9 : decode cX10_widen 9 = .ok (.iload_n 2, 1) := by decide +kernel
theorem dX10_widen_10 : decode cX10_widen 10 = .ok (.invokevirtual 218, 3) := by decide +kernel
theorem dX10_widen_13 : decode cX10_widen 13 = .ok (.ifCond .ne 6, 3) := by decide +kernel
theorem dX10_widen_16 : decode cX10_widen 16 = .ok (.bipush (-2), 2) := by decide +kernel
theorem dX10_widen_18 : decode cX10_widen 18 = .ok (.ireturn, 1) := by decide +kernel
theorem dX10_widen_19 : decode cX10_widen 19 = .ok (.iconst 1, 1) := by decide +kernel
theorem dX10_widen_20 : decode cX10_widen 20 = .ok (.istore_n 3, 1) := by decide +kernel
theorem dX10_widen_21 : decode cX10_widen 21 = .ok (.iconst 0, 1) := by decide +kernel
theorem dX10_widen_22 : decode cX10_widen 22 = .ok (.istore 4, 2) := by decide +kernel
theorem dX10_widen_24 : decode cX10_widen 24 = .ok (.iconst 1, 1) := by decide +kernel
theorem dX10_widen_25 : decode cX10_widen 25 = .ok (.istore 5, 2) := by decide +kernel
theorem dX10_widen_27 : decode cX10_widen 27 = .ok (.iload 5, 2) := by decide +kernel
theorem dX10_widen_29 : decode cX10_widen 29 = .ok (.bipush 9, 2) := by decide +kernel
theorem dX10_widen_31 : decode cX10_widen 31 = .ok (.if_icmp .gt 39, 3) := by decide +kernel
theorem dX10_widen_34 : decode cX10_widen 34 = .ok (.aload_n 0, 1) := by decide +kernel
theorem dX10_widen_35 : decode cX10_widen 35 = .ok (.iload_n 1, 1) := by decide +kernel
theorem dX10_widen_36 : decode cX10_widen 36 = .ok (.iload_n 2, 1) := by decide +kernel
theorem dX10_widen_37 : decode cX10_widen 37 = .ok (.iload 5, 2) := by decide +kernel
theorem dX10_widen_39 : decode cX10_widen 39 = .ok (.invokevirtual 368, 3) := by decide +kernel
theorem dX10_widen_42 : decode cX10_widen 42 = .ok (.invokestatic 319, 3) := by decide +kernel
theorem dX10_widen_45 : decode cX10_widen 45 = .ok (.istore 6, 2) := by decide +kernel
theorem dX10_widen_47 : decode cX10_widen 47 = .ok (.iload 6, 2) := by decide +kernel
theorem dX10_widen_49 : decode cX10_widen 49 = .ok (.iload 4, 2) := by decide +kernel
theorem dX10_widen_51 : decode cX10_widen 51 = .ok (.if_icmp .gt 6, 3) := by decide +kernel
theorem dX10_widen_54 : decode cX10_widen 54 = .ok (.goto 10, 3) := by decide +kernel
theorem dX10_widen_57 : decode cX10_widen 57 = .ok (.iload 6, 2) := by decide +kernel
theorem dX10_widen_59 : decode cX10_widen 59 = .ok (.istore 4, 2) := by decide +kernel
theorem dX10_widen_61 : decode cX10_widen 61 = .ok (.iload 5, 2) := by decide +kernel
theorem dX10_widen_63 : decode cX10_widen 63 = .ok (.istore_n 3, 1) := by decide +kernel
theorem dX10_widen_64 : decode cX10_widen 64 = .ok (.iinc 5 1, 3) := by decide +kernel
theorem dX10_widen_67 : decode cX10_widen 67 = .ok (.goto (-40), 3) := by decide +kernel
theorem dX10_widen_70 : decode cX10_widen 70 = .ok (.iload_n 3, 1) := by decide +kernel
theorem dX10_widen_71 : decode cX10_widen 71 = .ok (.ireturn, 1) := by decide +kernel
theorem dX10_shut_0 : decode cX10_shut 0 = .ok (.aload_n 0, 1) := by decide +kernel
theorem dX10_shut_1 : decode cX10_shut 1 = .ok (.iload_n 1, 1) := by decide +kernel
theorem dX10_shut_2 : decode cX10_shut 2 = .ok (.invokevirtual 288, 3) := by decide +kernel
theorem dX10_shut_5 : decode cX10_shut 5 = .ok (.ifCond .eq 21, 3) := by decide +kernel
theorem dX10_shut_8 : decode cX10_shut 8 = .ok (.aload_n 0, 1) := by decide +kernel
theorem dX10_shut_9 : decode cX10_shut 9 = .ok (.iload_n 2, 1) := by decide +kernel
theorem dX10_shut_10 : decode cX10_shut 10 = .ok (.invokevirtual 218, 3) := by decide +kernel
theorem dX10_shut_13 : decode cX10_shut 13 = .ok (.ifCond .eq 13, 3) := by decide +kernel
theorem dX10_shut_16 : decode cX10_shut 16 = .ok (.aload_n 0, 1) := by decide +kernel
theorem dX10_shut_17 : decode cX10_shut 17 = .ok (.iload_n 1, 1) := by decide +kernel
theorem dX10_shut_18 : decode cX10_shut 18 = .ok (.iload_n 2, 1) := by decide +kernel
theorem dX10_shut_19 : decode cX10_shut 19 = .ok (.iconst 0, 1) := by decide +kernel
theorem dX10_shut_20 : decode cX10_shut 20 = .ok (.invokevirtual 368, 3) := by decide +kernel
theorem dX10_shut_23 : decode cX10_shut 23 = .ok (.goto 5, 3) := by decide +kernel
theorem dX10_shut_26 : decode cX10_shut 26 = .ok (.bipush (-2), 2) := by decide +kernel
theorem dX10_shut_28 : decode cX10_shut 28 = .ok (.ireturn, 1) := by decide +kernel
theorem dX10_bars_0 : decode cX10_bars 0 = .ok (.aload_n 0, 1) := by decide +kernel
theorem dX10_bars_1 : decode cX10_bars 1 = .ok (.iload_n 1, 1) := by decide +kernel
theorem dX10_bars_2 : decode cX10_bars 2 = .ok (.i2l, 1) := by decide +kernel
theorem dX10_bars_3 : decode cX10_bars 3 = .ok (.invokevirtual 222, 3) := by decide +kernel
theorem dX10_bars_6 : decode cX10_bars 6 = .ok (.ifCond .eq 19, 3) := by decide +kernel
theorem dX10_bars_9 : decode cX10_bars 9 = .ok (.aload_n 0, 1) := by decide +kernel
theorem dX10_bars_10 : decode cX10_bars 10 = .ok (.iload_n 2, 1) := by decide +kernel
theorem dX10_bars_11 : decode cX10_bars 11 = .ok (.invokevirtual 291, 3) := by decide +kernel
theorem dX10_bars_14 : decode cX10_bars 14 = .ok (.ifCond .eq 11, 3) := by decide +kernel
theorem dX10_bars_17 : decode cX10_bars 17 = .ok (.aload_n 0, 1) := by decide +kernel
theorem dX10_bars_18 : decode cX10_bars 18 = .ok (.iload_n 3, 1) := by decide +kernel
theorem dX10_bars_19 : decode cX10_bars 19 = .ok (.invokevirtual 291, 3) := by decide +kernel
theorem dX10_bars_22 : decode cX10_bars 22 = .ok (.ifCond .ne 6, 3) := by decide +kernel
theorem dX10_bars_25 : decode cX10_bars 25 = .ok (.bipush (-2), 2) := by decide +kernel
theorem dX10_bars_27 : decode cX10_bars 27 = .ok (.ireturn, 1) := by decide +kernel
theorem dX10_bars_28 : decode cX10_bars 28 = .ok (.iload_n 2, 1) := by decide +kernel
theorem dX10_bars_29 : decode cX10_bars 29 = .ok (.iload_n 3, 1) := by decide +kernel
theorem dX10_bars_30 : decode cX10_bars 30 = .ok (.if_icmp .ne 5, 3) := by decide +kernel
theorem dX10_bars_33 : decode cX10_bars 33 = .ok (.iconst 1, 1) := by decide +kernel
theorem dX10_bars_34 : decode cX10_bars 34 = .ok (.ireturn, 1) := by decide +kernel
theorem dX10_bars_35 : decode cX10_bars 35 = .ok (.aload_n 0, 1) := by decide +kernel
theorem dX10_bars_36 : decode cX10_bars 36 = .ok (.invokevirtual 279, 3) := by decide +kernel
theorem dX10_bars_39 : decode cX10_bars 39 = .ok (.aload_n 0, 1) := by decide +kernel
theorem dX10_bars_40 : decode cX10_bars 40 = .ok (.iconst 1, 1) := by decide +kernel
theorem dX10_bars_41 : decode cX10_bars 41 = .ok (.iload_n 2, 1) := by decide +kernel
theorem dX10_bars_42 : decode cX10_bars 42 = .ok (.iload_n 3, 1) := by decide +kernel
theorem dX10_bars_43 : decode cX10_bars 43 = .ok (.invokevirtual 233, 3) := by decide +kernel
theorem dX10_bars_46 : decode cX10_bars 46 = .ok (.ldc 226, 2) := by decide +kernel
theorem dX10_bars_48 : decode cX10_bars 48 = .ok (.if_icmp .lt 7, 3) := by decide +kernel
theorem dX10_bars_51 : decode cX10_bars 51 = .ok (.iconst (-1), 1) := by decide +kernel
theorem dX10_bars_52 : decode cX10_bars 52 = .ok (.goto 8, 3) := by decide +kernel
theorem dX10_bars_55 : decode cX10_bars 55 = .ok (.aload_n 0, 1) := by decide +kernel
theorem dX10_bars_56 : decode cX10_bars 56 = .ok (.iload_n 1, 1) := by decide +kernel
theorem dX10_bars_57 : decode cX10_bars 57 = .ok (.invokevirtual 238, 3) := by decide +kernel
theorem dX10_bars_60 : decode cX10_bars 60 = .ok (.ireturn, 1) := by decide +kernel
theorem dX10_numberAt_0 : decode cX10_numberAt 0 = .ok (.aload_n 0, 1) := by decide +kernel
theorem dX10_numberAt_1 : decode cX10_numberAt 1 = .ok (.getfield 70, 3) := by decide +kernel
theorem dX10_numberAt_4 : decode cX10_numberAt 4 = .ok (.bipush 60, 2) := by decide +kernel
theorem dX10_numberAt_6 : decode cX10_numberAt 6 = .ok (.iload_n 1, 1) := by decide +kernel
theorem dX10_numberAt_7 : decode cX10_numberAt 7 = .ok (.imul, 1) := by decide +kernel
theorem dX10_numberAt_8 : decode cX10_numberAt 8 = .ok (.iload_n 2, 1) := by decide +kernel
theorem dX10_numberAt_9 : decode cX10_numberAt 9 = .ok (.iadd, 1) := by decide +kernel
theorem dX10_numberAt_10 : decode cX10_numberAt 10 = .ok (.laload, 1) := by decide +kernel
theorem dX10_numberAt_11 : decode cX10_numberAt 11 = .ok (.lreturn, 1) := by decide +kernel
theorem dX10_isThree_0 : decode cX10_isThree 0 = .ok (.aload_n 0, 1) := by decide +kernel
theorem dX10_isThree_1 : decode cX10_isThree 1 = .ok (.aload_n 0, 1) := by decide +kernel
theorem dX10_isThree_2 : decode cX10_isThree 2 = .ok (.iload_n 1, 1) := by decide +kernel
theorem dX10_isThree_3 : decode cX10_isThree 3 = .ok (.iload_n 2, 1) := by decide +kernel
theorem dX10_isThree_4 : decode cX10_isThree 4 = .ok (.invokevirtual 371, 3) := by decide +kernel
theorem dX10_isThree_7 : decode cX10_isThree 7 = .ok (.invokevirtual 222, 3) := by decide +kernel
theorem dX10_isThree_10 : decode cX10_isThree 10 = .ok (.ifCond .eq 38, 3) := by decide +kernel
theorem dX10_isThree_13 : decode cX10_isThree 13 = .ok (.aload_n 0, 1) := by decide +kernel
theorem dX10_isThree_14 : decode cX10_isThree 14 = .ok (.aload_n 0, 1) := by decide +kernel
theorem dX10_isThree_15 : decode cX10_isThree 15 = .ok (.iload_n 1, 1) := by decide +kernel
theorem dX10_isThree_16 : decode cX10_isThree 16 = .ok (.iload_n 2, 1) := by decide +kernel
theorem dX10_isThree_17 : decode cX10_isThree 17 = .ok (.iconst 1, 1) := by decide +kernel
theorem dX10_isThree_18 : decode cX10_isThree 18 = .ok (.iadd, 1) := by decide +kernel
theorem dX10_isThree_19 : decode cX10_isThree 19 = .ok (.invokevirtual 371, 3) := by decide +kernel
theorem dX10_isThree_22 : decode cX10_isThree 22 = .ok (.invokevirtual 282, 3) := by decide +kernel
theorem dX10_isThree_25 : decode cX10_isThree 25 = .ok (.ifCond .eq 23, 3) := by decide +kernel
theorem dX10_isThree_28 : decode cX10_isThree 28 = .ok (.aload_n 0, 1) := by decide +kernel
theorem dX10_isThree_29 : decode cX10_isThree 29 = .ok (.iload_n 1, 1) := by decide +kernel
theorem dX10_isThree_30 : decode cX10_isThree 30 = .ok (.iload_n 2, 1) := by decide +kernel
theorem dX10_isThree_31 : decode cX10_isThree 31 = .ok (.iconst 2, 1) := by decide +kernel
theorem dX10_isThree_32 : decode cX10_isThree 32 = .ok (.iadd, 1) := by decide +kernel
theorem dX10_isThree_33 : decode cX10_isThree 33 = .ok (.invokevirtual 371, 3) := by decide +kernel
theorem dX10_isThree_36 : decode cX10_isThree 36 = .ok (.lconst 0, 1) := by decide +kernel
theorem dX10_isThree_37 : decode cX10_isThree 37 = .ok (.lconst 1, 1) := by decide +kernel
theorem dX10_isThree_38 : decode cX10_isThree 38 = .ok (.invokestatic 82, 3) := by decide +kernel
theorem dX10_isThree_41 : decode cX10_isThree 41 = .ok (.ifCond .eq 7, 3) := by decide +kernel
theorem dX10_isThree_44 : decode cX10_isThree 44 = .ok (.iconst 1, 1) := by decide +kernel
theorem dX10_isThree_45 : decode cX10_isThree 45 = .ok (.goto 4, 3) := by decide +kernel
theorem dX10_isThree_48 : decode cX10_isThree 48 = .ok (.iconst 0, 1) := by decide +kernel
theorem dX10_isThree_49 : decode cX10_isThree 49 = .ok (.ireturn, 1) := by decide +kernel
theorem dX10_layFirsts_0 : decode cX10_layFirsts 0 = .ok (.iload_n 1, 1) := by decide +kernel
theorem dX10_layFirsts_1 : decode cX10_layFirsts 1 = .ok (.invokestatic 375, 3) := by decide +kernel
theorem dX10_layFirsts_4 : decode cX10_layFirsts 4 = .ok (.ifCond .eq 10, 3) := by decide +kernel
theorem dX10_layFirsts_7 : decode cX10_layFirsts 7 = .ok (.aload_n 0, 1) := by decide +kernel
theorem dX10_layFirsts_8 : decode cX10_layFirsts 8 = .ok (.invokevirtual 86, 3) := by decide +kernel
theorem dX10_layFirsts_11 : decode cX10_layFirsts 11 = .ok (.ifCond .ne 6, 3) := by decide +kernel
theorem dX10_layFirsts_14 : decode cX10_layFirsts 14 = .ok (.bipush (-2), 2) := by decide +kernel
theorem dX10_layFirsts_16 : decode cX10_layFirsts 16 = .ok (.ireturn, 1) := by decide +kernel
theorem dX10_layFirsts_17 : decode cX10_layFirsts 17 = .ok (.aload_n 0, 1) := by decide +kernel
theorem dX10_layFirsts_18 : decode cX10_layFirsts 18 = .ok (.getfield 64, 3) := by decide +kernel
theorem dX10_layFirsts_21 : decode cX10_layFirsts 21 = .ok (.iload_n 1, 1) := by decide +kernel
theorem dX10_layFirsts_22 : decode cX10_layFirsts 22 = .ok (.iaload, 1) := by decide +kernel
theorem dX10_layFirsts_23 : decode cX10_layFirsts 23 = .ok (.iconst (-1), 1) := by decide +kernel
theorem dX10_layFirsts_24 : decode cX10_layFirsts 24 = .ok (.if_icmp .ne 6, 3) := by decide +kernel
theorem dX10_layFirsts_27 : decode cX10_layFirsts 27 = .ok (.bipush (-6), 2) := by decide +kernel
theorem dX10_layFirsts_29 : decode cX10_layFirsts 29 = .ok (.ireturn, 1) := by decide +kernel
theorem dX10_layFirsts_30 : decode cX10_layFirsts 30 = .ok (.aload_n 0, 1) := by decide +kernel
theorem dX10_layFirsts_31 : decode cX10_layFirsts 31 = .ok (.getfield 64, 3) := by decide +kernel
theorem dX10_layFirsts_34 : decode cX10_layFirsts 34 = .ok (.iload_n 1, 1) := by decide +kernel
theorem dX10_layFirsts_35 : decode cX10_layFirsts 35 = .ok (.iaload, 1) := by decide +kernel
theorem dX10_layFirsts_36 : decode cX10_layFirsts 36 = .ok (.iconst 3, 1) := by decide +kernel
theorem dX10_layFirsts_37 : decode cX10_layFirsts 37 = .ok (.irem, 1) := by decide +kernel
theorem dX10_layFirsts_38 : decode cX10_layFirsts 38 = .ok (.ifCond .eq 6, 3) := by decide +kernel
theorem dX10_layFirsts_41 : decode cX10_layFirsts 41 = .ok (.bipush (-2), 2) := by decide +kernel
theorem dX10_layFirsts_43 : decode cX10_layFirsts 43 = .ok (.ireturn, 1) := by decide +kernel
theorem dX10_layFirsts_44 : decode cX10_layFirsts 44 = .ok (.iconst 0, 1) := by decide +kernel
theorem dX10_layFirsts_45 : decode cX10_layFirsts 45 = .ok (.istore_n 2, 1) := by decide +kernel
theorem dX10_layFirsts_46 : decode cX10_layFirsts 46 = .ok (.iload_n 2, 1) := by decide +kernel
theorem dX10_layFirsts_47 : decode cX10_layFirsts 47 = .ok (.aload_n 0, 1) := by decide +kernel
theorem dX10_layFirsts_48 : decode cX10_layFirsts 48 = .ok (.getfield 64, 3) := by decide +kernel
theorem dX10_layFirsts_51 : decode cX10_layFirsts 51 = .ok (.iload_n 1, 1) := by decide +kernel
theorem dX10_layFirsts_52 : decode cX10_layFirsts 52 = .ok (.iaload, 1) := by decide +kernel
theorem dX10_layFirsts_53 : decode cX10_layFirsts 53 = .ok (.if_icmp .ge 21, 3) := by decide +kernel
theorem dX10_layFirsts_56 : decode cX10_layFirsts 56 = .ok (.aload_n 0, 1) := by decide +kernel
theorem dX10_layFirsts_57 : decode cX10_layFirsts 57 = .ok (.iload_n 1, 1) := by decide +kernel
theorem dX10_layFirsts_58 : decode cX10_layFirsts 58 = .ok (.iload_n 2, 1) := by decide +kernel
theorem dX10_layFirsts_59 : decode cX10_layFirsts 59 = .ok (.invokevirtual 378, 3) := by decide +kernel
theorem dX10_layFirsts_62 : decode cX10_layFirsts 62 = .ok (.ifCond .ne 6, 3) := by decide +kernel
theorem dX10_layFirsts_65 : decode cX10_layFirsts 65 = .ok (.bipush (-2), 2) := by decide +kernel
theorem dX10_layFirsts_67 : decode cX10_layFirsts 67 = .ok (.ireturn, 1) := by decide +kernel
theorem dX10_layFirsts_68 : decode cX10_layFirsts 68 = .ok (.iinc 2 3, 3) := by decide +kernel
theorem dX10_layFirsts_71 : decode cX10_layFirsts 71 = .ok (.goto (-25), 3) := by decide +kernel
theorem dX10_layFirsts_74 : decode cX10_layFirsts 74 = .ok (.aload_n 0, 1) := by decide +kernel
theorem dX10_layFirsts_75 : decode cX10_layFirsts 75 = .ok (.invokevirtual 279, 3) := by decide +kernel
theorem dX10_layFirsts_78 : decode cX10_layFirsts 78 = .ok (.iconst 0, 1) := by decide +kernel
theorem dX10_layFirsts_79 : decode cX10_layFirsts 79 = .ok (.istore_n 2, 1) := by decide +kernel
theorem dX10_layFirsts_80 : decode cX10_layFirsts 80 = .ok (.iconst 0, 1) := by decide +kernel
theorem dX10_layFirsts_81 : decode cX10_layFirsts 81 = .ok (.istore_n 3, 1) := by decide +kernel
theorem dX10_layFirsts_82 : decode cX10_layFirsts 82 = .ok (.iload_n 3, 1) := by decide +kernel
theorem dX10_layFirsts_83 : decode cX10_layFirsts 83 = .ok (.aload_n 0, 1) := by decide +kernel
theorem dX10_layFirsts_84 : decode cX10_layFirsts 84 = .ok (.invokevirtual 244, 3) := by decide +kernel
theorem dX10_layFirsts_87 : decode cX10_layFirsts 87 = .ok (.if_icmp .ge 140, 3) := by decide +kernel
theorem dX10_layFirsts_90 : decode cX10_layFirsts 90 = .ok (.aload_n 0, 1) := by decide +kernel
theorem dX10_layFirsts_91 : decode cX10_layFirsts 91 = .ok (.iload_n 3, 1) := by decide +kernel
theorem dX10_layFirsts_92 : decode cX10_layFirsts 92 = .ok (.invokevirtual 338, 3) := by decide +kernel
theorem dX10_layFirsts_95 : decode cX10_layFirsts 95 = .ok (.pop, 1) := by decide +kernel
theorem dX10_layFirsts_96 : decode cX10_layFirsts 96 = .ok (.iconst 1, 1) := by decide +kernel
theorem dX10_layFirsts_97 : decode cX10_layFirsts 97 = .ok (.istore 4, 2) := by decide +kernel
theorem dX10_layFirsts_99 : decode cX10_layFirsts 99 = .ok (.iconst 0, 1) := by decide +kernel
theorem dX10_layFirsts_100 : decode cX10_layFirsts 100 = .ok (.istore 5, 2) := by decide +kernel
theorem dX10_layFirsts_102 : decode cX10_layFirsts 102 = .ok (.iload 5, 2) := by decide +kernel
theorem dX10_layFirsts_104 : decode cX10_layFirsts 104 = .ok (.aload_n 0, 1) := by decide +kernel
theorem dX10_layFirsts_105 : decode cX10_layFirsts 105 = .ok (.getfield 64, 3) := by decide +kernel
theorem dX10_layFirsts_108 : decode cX10_layFirsts 108 = .ok (.iload_n 1, 1) := by decide +kernel
theorem dX10_layFirsts_109 : decode cX10_layFirsts 109 = .ok (.iaload, 1) := by decide +kernel
theorem dX10_layFirsts_110 : decode cX10_layFirsts 110 = .ok (.if_icmp .ge 61, 3) := by decide +kernel
theorem dX10_layFirsts_113 : decode cX10_layFirsts 113 = .ok (.iload 4, 2) := by decide +kernel
theorem dX10_layFirsts_115 : decode cX10_layFirsts 115 = .ok (.ifCond .eq 47, 3) := by decide +kernel
theorem dX10_layFirsts_118 : decode cX10_layFirsts 118 = .ok (.aload_n 0, 1) := by decide +kernel
theorem dX10_layFirsts_119 : decode cX10_layFirsts 119 = .ok (.getfield 46, 3) := by decide +kernel
theorem dX10_layFirsts_122 : decode cX10_layFirsts 122 = .ok (.aload_n 0, 1) := by decide +kernel
theorem dX10_layFirsts_123 : decode cX10_layFirsts 123 = .ok (.iload_n 1, 1) := by decide +kernel
theorem dX10_layFirsts_124 : decode cX10_layFirsts 124 = .ok (.iload 5, 2) := by decide +kernel
theorem dX10_layFirsts_126 : decode cX10_layFirsts 126 = .ok (.iconst 1, 1) := by decide +kernel
theorem dX10_layFirsts_127 : decode cX10_layFirsts 127 = .ok (.iadd, 1) := by decide +kernel
theorem dX10_layFirsts_128 : decode cX10_layFirsts 128 = .ok (.invokevirtual 371, 3) := by decide +kernel
theorem dX10_layFirsts_131 : decode cX10_layFirsts 131 = .ok (.l2i, 1) := by decide +kernel
theorem dX10_layFirsts_132 : decode cX10_layFirsts 132 = .ok (.iaload, 1) := by decide +kernel
theorem dX10_layFirsts_133 : decode cX10_layFirsts 133 = .ok (.aload_n 0, 1) := by decide +kernel
theorem dX10_layFirsts_134 : decode cX10_layFirsts 134 = .ok (.iload_n 1, 1) := by decide +kernel
theorem dX10_layFirsts_135 : decode cX10_layFirsts 135 = .ok (.iload 5, 2) := by decide +kernel
theorem dX10_layFirsts_137 : decode cX10_layFirsts 137 = .ok (.invokevirtual 371, 3) := by decide +kernel
theorem dX10_layFirsts_140 : decode cX10_layFirsts 140 = .ok (.l2i, 1) := by decide +kernel
theorem dX10_layFirsts_141 : decode cX10_layFirsts 141 = .ok (.invokestatic 252, 3) := by decide +kernel
theorem dX10_layFirsts_144 : decode cX10_layFirsts 144 = .ok (.i2l, 1) := by decide +kernel
theorem dX10_layFirsts_145 : decode cX10_layFirsts 145 = .ok (.aload_n 0, 1) := by decide +kernel
theorem dX10_layFirsts_146 : decode cX10_layFirsts 146 = .ok (.iload_n 1, 1) := by decide +kernel
theorem dX10_layFirsts_147 : decode cX10_layFirsts 147 = .ok (.iload 5, 2) := by decide +kernel
theorem dX10_layFirsts_149 : decode cX10_layFirsts 149 = .ok (.iconst 2, 1) := by decide +kernel
theorem dX10_layFirsts_150 : decode cX10_layFirsts 150 = .ok (.iadd, 1) := by decide +kernel
theorem dX10_layFirsts_151 : decode cX10_layFirsts 151 = .ok (.invokevirtual 371, 3) := by decide +kernel
theorem dX10_layFirsts_154 : decode cX10_layFirsts 154 = .ok (.lcmp, 1) := by decide +kernel
theorem dX10_layFirsts_155 : decode cX10_layFirsts 155 = .ok (.ifCond .ne 7, 3) := by decide +kernel
theorem dX10_layFirsts_158 : decode cX10_layFirsts 158 = .ok (.iconst 1, 1) := by decide +kernel
theorem dX10_layFirsts_159 : decode cX10_layFirsts 159 = .ok (.goto 4, 3) := by decide +kernel
theorem dX10_layFirsts_162 : decode cX10_layFirsts 162 = .ok (.iconst 0, 1) := by decide +kernel
theorem dX10_layFirsts_163 : decode cX10_layFirsts 163 = .ok (.istore 4, 2) := by decide +kernel
theorem dX10_layFirsts_165 : decode cX10_layFirsts 165 = .ok (.iinc 5 3, 3) := by decide +kernel
theorem dX10_layFirsts_168 : decode cX10_layFirsts 168 = .ok (.goto (-66), 3) := by decide +kernel
theorem dX10_layFirsts_171 : decode cX10_layFirsts 171 = .ok (.iconst 0, 1) := by decide +kernel
theorem dX10_layFirsts_172 : decode cX10_layFirsts 172 = .ok (.istore 5, 2) := by decide +kernel
theorem dX10_layFirsts_174 : decode cX10_layFirsts 174 = .ok (.iload 5, 2) := by decide +kernel
theorem dX10_layFirsts_176 : decode cX10_layFirsts 176 = .ok (.bipush 6, 2) := by decide +kernel
theorem dX10_layFirsts_178 : decode cX10_layFirsts 178 = .ok (.if_icmp .ge 28, 3) := by decide +kernel
theorem dX10_layFirsts_181 : decode cX10_layFirsts 181 = .ok (.aload_n 0, 1) := by decide +kernel
theorem dX10_layFirsts_182 : decode cX10_layFirsts 182 = .ok (.getfield 61, 3) := by decide +kernel
theorem dX10_layFirsts_185 : decode cX10_layFirsts 185 = .ok (.bipush 6, 2) := by decide +kernel
theorem dX10_layFirsts_187 : decode cX10_layFirsts 187 = .ok (.iload_n 3, 1) := by decide +kernel
theorem dX10_layFirsts_188 : decode cX10_layFirsts 188 = .ok (.imul, 1) := by decide +kernel
theorem dX10_layFirsts_189 : decode cX10_layFirsts 189 = .ok (.iload 5, 2) := by decide +kernel
theorem dX10_layFirsts_191 : decode cX10_layFirsts 191 = .ok (.iadd, 1) := by decide +kernel
theorem dX10_layFirsts_192 : decode cX10_layFirsts 192 = .ok (.aload_n 0, 1) := by decide +kernel
theorem dX10_layFirsts_193 : decode cX10_layFirsts 193 = .ok (.getfield 49, 3) := by decide +kernel
theorem dX10_layFirsts_196 : decode cX10_layFirsts 196 = .ok (.iload 5, 2) := by decide +kernel
theorem dX10_layFirsts_198 : decode cX10_layFirsts 198 = .ok (.iaload, 1) := by decide +kernel
theorem dX10_layFirsts_199 : decode cX10_layFirsts 199 = .ok (.iastore, 1) := by decide +kernel
theorem dX10_layFirsts_200 : decode cX10_layFirsts 200 = .ok (.iinc 5 1, 3) := by decide +kernel
theorem dX10_layFirsts_203 : decode cX10_layFirsts 203 = .ok (.goto (-29), 3) := by decide +kernel
theorem dX10_layFirsts_206 : decode cX10_layFirsts 206 = .ok (.iload_n 2, 1) := by decide +kernel
theorem dX10_layFirsts_207 : decode cX10_layFirsts 207 = .ok (.iload 4, 2) := by decide +kernel
theorem dX10_layFirsts_209 : decode cX10_layFirsts 209 = .ok (.ifCond .eq 9, 3) := by decide +kernel
theorem dX10_layFirsts_212 : decode cX10_layFirsts 212 = .ok (.iconst 1, 1) := by decide +kernel
theorem dX10_layFirsts_213 : decode cX10_layFirsts 213 = .ok (.iload_n 3, 1) := by decide +kernel
theorem dX10_layFirsts_214 : decode cX10_layFirsts 214 = .ok (.ishl, 1) := by decide +kernel
theorem dX10_layFirsts_215 : decode cX10_layFirsts 215 = .ok (.goto 4, 3) := by decide +kernel
theorem dX10_layFirsts_218 : decode cX10_layFirsts 218 = .ok (.iconst 0, 1) := by decide +kernel
theorem dX10_layFirsts_219 : decode cX10_layFirsts 219 = .ok (.ior, 1) := by decide +kernel
theorem dX10_layFirsts_220 : decode cX10_layFirsts 220 = .ok (.istore_n 2, 1) := by decide +kernel
theorem dX10_layFirsts_221 : decode cX10_layFirsts 221 = .ok (.iinc 3 1, 3) := by decide +kernel
theorem dX10_layFirsts_224 : decode cX10_layFirsts 224 = .ok (.goto (-142), 3) := by decide +kernel
theorem dX10_layFirsts_227 : decode cX10_layFirsts 227 = .ok (.iload_n 2, 1) := by decide +kernel
theorem dX10_layFirsts_228 : decode cX10_layFirsts 228 = .ok (.ireturn, 1) := by decide +kernel
theorem dX10_firsts_0 : decode cX10_firsts 0 = .ok (.aload_n 0, 1) := by decide +kernel
theorem dX10_firsts_1 : decode cX10_firsts 1 = .ok (.iload_n 1, 1) := by decide +kernel
theorem dX10_firsts_2 : decode cX10_firsts 2 = .ok (.invokevirtual 381, 3) := by decide +kernel
theorem dX10_firsts_5 : decode cX10_firsts 5 = .ok (.ireturn, 1) := by decide +kernel
theorem dX10_askOf_0 : decode cX10_askOf 0 = .ok (.aload_n 0, 1) := by decide +kernel
theorem dX10_askOf_1 : decode cX10_askOf 1 = .ok (.iload_n 1, 1) := by decide +kernel
theorem dX10_askOf_2 : decode cX10_askOf 2 = .ok (.invokestatic 319, 3) := by decide +kernel
theorem dX10_askOf_5 : decode cX10_askOf 5 = .ok (.putfield 384, 3) := by decide +kernel
theorem dX10_askOf_8 : decode cX10_askOf 8 = .ok (.iconst (-1), 1) := by decide +kernel
theorem dX10_askOf_9 : decode cX10_askOf 9 = .ok (.istore_n 2, 1) := by decide +kernel
theorem dX10_askOf_10 : decode cX10_askOf 10 = .ok (.iconst 0, 1) := by decide +kernel
theorem dX10_askOf_11 : decode cX10_askOf 11 = .ok (.istore_n 3, 1) := by decide +kernel
theorem dX10_askOf_12 : decode cX10_askOf 12 = .ok (.iload_n 3, 1) := by decide +kernel
theorem dX10_askOf_13 : decode cX10_askOf 13 = .ok (.aload_n 0, 1) := by decide +kernel
theorem dX10_askOf_14 : decode cX10_askOf 14 = .ok (.invokevirtual 244, 3) := by decide +kernel
theorem dX10_askOf_17 : decode cX10_askOf 17 = .ok (.if_icmp .ge 117, 3) := by decide +kernel
theorem dX10_askOf_20 : decode cX10_askOf 20 = .ok (.iconst 0, 1) := by decide +kernel
theorem dX10_askOf_21 : decode cX10_askOf 21 = .ok (.istore 4, 2) := by decide +kernel
theorem dX10_askOf_23 : decode cX10_askOf 23 = .ok (.iconst (-1), 1) := by decide +kernel
theorem dX10_askOf_24 : decode cX10_askOf 24 = .ok (.istore 5, 2) := by decide +kernel
theorem dX10_askOf_26 : decode cX10_askOf 26 = .ok (.iload 5, 2) := by decide +kernel
theorem dX10_askOf_28 : decode cX10_askOf 28 = .ok (.aload_n 0, 1) := by decide +kernel
theorem dX10_askOf_29 : decode cX10_askOf 29 = .ok (.invokevirtual 247, 3) := by decide +kernel
theorem dX10_askOf_32 : decode cX10_askOf 32 = .ok (.if_icmp .gt 76, 3) := by decide +kernel
theorem dX10_askOf_35 : decode cX10_askOf 35 = .ok (.iconst 0, 1) := by decide +kernel
theorem dX10_askOf_36 : decode cX10_askOf 36 = .ok (.istore 6, 2) := by decide +kernel
theorem dX10_askOf_38 : decode cX10_askOf 38 = .ok (.iconst 0, 1) := by decide +kernel
theorem dX10_askOf_39 : decode cX10_askOf 39 = .ok (.istore 7, 2) := by decide +kernel
theorem dX10_askOf_41 : decode cX10_askOf 41 = .ok (.iload 7, 2) := by decide +kernel
theorem dX10_askOf_43 : decode cX10_askOf 43 = .ok (.aload_n 0, 1) := by decide +kernel
theorem dX10_askOf_44 : decode cX10_askOf 44 = .ok (.invokevirtual 244, 3) := by decide +kernel
theorem dX10_askOf_47 : decode cX10_askOf 47 = .ok (.if_icmp .ge 46, 3) := by decide +kernel
theorem dX10_askOf_50 : decode cX10_askOf 50 = .ok (.iload 6, 2) := by decide +kernel
theorem dX10_askOf_52 : decode cX10_askOf 52 = .ok (.iload_n 1, 1) := by decide +kernel
theorem dX10_askOf_53 : decode cX10_askOf 53 = .ok (.iload 7, 2) := by decide +kernel
theorem dX10_askOf_55 : decode cX10_askOf 55 = .ok (.invokestatic 252, 3) := by decide +kernel
theorem dX10_askOf_58 : decode cX10_askOf 58 = .ok (.iconst 1, 1) := by decide +kernel
theorem dX10_askOf_59 : decode cX10_askOf 59 = .ok (.if_icmp .ne 24, 3) := by decide +kernel
theorem dX10_askOf_62 : decode cX10_askOf 62 = .ok (.aload_n 0, 1) := by decide +kernel
theorem dX10_askOf_63 : decode cX10_askOf 63 = .ok (.getfield 61, 3) := by decide +kernel
theorem dX10_askOf_66 : decode cX10_askOf 66 = .ok (.bipush 6, 2) := by decide +kernel
theorem dX10_askOf_68 : decode cX10_askOf 68 = .ok (.iload 7, 2) := by decide +kernel
theorem dX10_askOf_70 : decode cX10_askOf 70 = .ok (.imul, 1) := by decide +kernel
theorem dX10_askOf_71 : decode cX10_askOf 71 = .ok (.iload_n 3, 1) := by decide +kernel
theorem dX10_askOf_72 : decode cX10_askOf 72 = .ok (.iadd, 1) := by decide +kernel
theorem dX10_askOf_73 : decode cX10_askOf 73 = .ok (.iaload, 1) := by decide +kernel
theorem dX10_askOf_74 : decode cX10_askOf 74 = .ok (.iload 5, 2) := by decide +kernel
theorem dX10_askOf_76 : decode cX10_askOf 76 = .ok (.if_icmp .ne 7, 3) := by decide +kernel
theorem dX10_askOf_79 : decode cX10_askOf 79 = .ok (.iconst 1, 1) := by decide +kernel
theorem dX10_askOf_80 : decode cX10_askOf 80 = .ok (.goto 4, 3) := by decide +kernel
theorem dX10_askOf_83 : decode cX10_askOf 83 = .ok (.iconst 0, 1) := by decide +kernel
theorem dX10_askOf_84 : decode cX10_askOf 84 = .ok (.iadd, 1) := by decide +kernel
theorem dX10_askOf_85 : decode cX10_askOf 85 = .ok (.istore 6, 2) := by decide +kernel
theorem dX10_askOf_87 : decode cX10_askOf 87 = .ok (.iinc 7 1, 3) := by decide +kernel
theorem dX10_askOf_90 : decode cX10_askOf 90 = .ok (.goto (-49), 3) := by decide +kernel
theorem dX10_askOf_93 : decode cX10_askOf 93 = .ok (.iload 4, 2) := by decide +kernel
theorem dX10_askOf_95 : decode cX10_askOf 95 = .ok (.iload 6, 2) := by decide +kernel
theorem dX10_askOf_97 : decode cX10_askOf 97 = .ok (.invokestatic 343, 3) := by decide +kernel
theorem dX10_askOf_100 : decode cX10_askOf 100 = .ok (.istore 4, 2) := by decide +kernel
theorem dX10_askOf_102 : decode cX10_askOf 102 = .ok (.iinc 5 1, 3) := by decide +kernel
theorem dX10_askOf_105 : decode cX10_askOf 105 = .ok (.goto (-79), 3) := by decide +kernel
theorem dX10_askOf_108 : decode cX10_askOf 108 = .ok (.iload 4, 2) := by decide +kernel
theorem dX10_askOf_110 : decode cX10_askOf 110 = .ok (.aload_n 0, 1) := by decide +kernel
theorem dX10_askOf_111 : decode cX10_askOf 111 = .ok (.getfield 384, 3) := by decide +kernel
theorem dX10_askOf_114 : decode cX10_askOf 114 = .ok (.if_icmp .lt 6, 3) := by decide +kernel
theorem dX10_askOf_117 : decode cX10_askOf 117 = .ok (.goto 11, 3) := by decide +kernel
theorem dX10_askOf_120 : decode cX10_askOf 120 = .ok (.aload_n 0, 1) := by decide +kernel
theorem dX10_askOf_121 : decode cX10_askOf 121 = .ok (.iload 4, 2) := by decide +kernel
theorem dX10_askOf_123 : decode cX10_askOf 123 = .ok (.putfield 384, 3) := by decide +kernel
theorem dX10_askOf_126 : decode cX10_askOf 126 = .ok (.iload_n 3, 1) := by decide +kernel
theorem dX10_askOf_127 : decode cX10_askOf 127 = .ok (.istore_n 2, 1) := by decide +kernel
theorem dX10_askOf_128 : decode cX10_askOf 128 = .ok (.iinc 3 1, 3) := by decide +kernel
theorem dX10_askOf_131 : decode cX10_askOf 131 = .ok (.goto (-119), 3) := by decide +kernel
theorem dX10_askOf_134 : decode cX10_askOf 134 = .ok (.iload_n 2, 1) := by decide +kernel
theorem dX10_askOf_135 : decode cX10_askOf 135 = .ok (.ireturn, 1) := by decide +kernel
theorem dX10_ask_0 : decode cX10_ask 0 = .ok (.aload_n 0, 1) := by decide +kernel
theorem dX10_ask_1 : decode cX10_ask 1 = .ok (.iload_n 1, 1) := by decide +kernel
theorem dX10_ask_2 : decode cX10_ask 2 = .ok (.invokevirtual 381, 3) := by decide +kernel
theorem dX10_ask_5 : decode cX10_ask 5 = .ok (.istore_n 2, 1) := by decide +kernel
theorem dX10_ask_6 : decode cX10_ask 6 = .ok (.iload_n 2, 1) := by decide +kernel
theorem dX10_ask_7 : decode cX10_ask 7 = .ok (.ifCond .ge 7, 3) := by decide +kernel
theorem dX10_ask_10 : decode cX10_ask 10 = .ok (.iload_n 2, 1) := by decide +kernel
theorem dX10_ask_11 : decode cX10_ask 11 = .ok (.goto 8, 3) := by decide +kernel
theorem dX10_ask_14 : decode cX10_ask 14 = .ok (.aload_n 0, 1) := by decide +kernel
theorem dX10_ask_15 : decode cX10_ask 15 = .ok (.iload_n 2, 1) := by decide +kernel
theorem dX10_ask_16 : decode cX10_ask 16 = .ok (.invokevirtual 387, 3) := by decide +kernel
theorem dX10_ask_19 : decode cX10_ask 19 = .ok (.ireturn, 1) := by decide +kernel
theorem dX10_leaves_0 : decode cX10_leaves 0 = .ok (.aload_n 0, 1) := by decide +kernel
theorem dX10_leaves_1 : decode cX10_leaves 1 = .ok (.iload_n 1, 1) := by decide +kernel
theorem dX10_leaves_2 : decode cX10_leaves 2 = .ok (.invokevirtual 381, 3) := by decide +kernel
theorem dX10_leaves_5 : decode cX10_leaves 5 = .ok (.istore_n 2, 1) := by decide +kernel
theorem dX10_leaves_6 : decode cX10_leaves 6 = .ok (.iload_n 2, 1) := by decide +kernel
theorem dX10_leaves_7 : decode cX10_leaves 7 = .ok (.ifCond .ge 5, 3) := by decide +kernel
theorem dX10_leaves_10 : decode cX10_leaves 10 = .ok (.iload_n 2, 1) := by decide +kernel
theorem dX10_leaves_11 : decode cX10_leaves 11 = .ok (.ireturn, 1) := by decide +kernel
theorem dX10_leaves_12 : decode cX10_leaves 12 = .ok (.aload_n 0, 1) := by decide +kernel
theorem dX10_leaves_13 : decode cX10_leaves 13 = .ok (.iload_n 2, 1) := by decide +kernel
theorem dX10_leaves_14 : decode cX10_leaves 14 = .ok (.invokevirtual 387, 3) := by decide +kernel
theorem dX10_leaves_17 : decode cX10_leaves 17 = .ok (.pop, 1) := by decide +kernel
theorem dX10_leaves_18 : decode cX10_leaves 18 = .ok (.aload_n 0, 1) := by decide +kernel
theorem dX10_leaves_19 : decode cX10_leaves 19 = .ok (.getfield 384, 3) := by decide +kernel
theorem dX10_leaves_22 : decode cX10_leaves 22 = .ok (.ireturn, 1) := by decide +kernel
theorem dX10_seatsIn_0 : decode cX10_seatsIn 0 = .ok (.iconst 0, 1) := by decide +kernel
theorem dX10_seatsIn_1 : decode cX10_seatsIn 1 = .ok (.istore_n 2, 1) := by decide +kernel
theorem dX10_seatsIn_2 : decode cX10_seatsIn 2 = .ok (.iconst 0, 1) := by decide +kernel
theorem dX10_seatsIn_3 : decode cX10_seatsIn 3 = .ok (.istore_n 3, 1) := by decide +kernel
theorem dX10_seatsIn_4 : decode cX10_seatsIn 4 = .ok (.iload_n 3, 1) := by decide +kernel
theorem dX10_seatsIn_5 : decode cX10_seatsIn 5 = .ok (.aload_n 0, 1) := by decide +kernel
theorem dX10_seatsIn_6 : decode cX10_seatsIn 6 = .ok (.invokevirtual 244, 3) := by decide +kernel
theorem dX10_seatsIn_9 : decode cX10_seatsIn 9 = .ok (.if_icmp .ge 24, 3) := by decide +kernel
theorem dX10_seatsIn_12 : decode cX10_seatsIn 12 = .ok (.iload_n 2, 1) := by decide +kernel
theorem dX10_seatsIn_13 : decode cX10_seatsIn 13 = .ok (.iload_n 1, 1) := by decide +kernel
theorem dX10_seatsIn_14 : decode cX10_seatsIn 14 = .ok (.iload_n 3, 1) := by decide +kernel
theorem dX10_seatsIn_15 : decode cX10_seatsIn 15 = .ok (.invokestatic 252, 3) := by decide +kernel
theorem dX10_seatsIn_18 : decode cX10_seatsIn 18 = .ok (.aload_n 0, 1) := by decide +kernel
theorem dX10_seatsIn_19 : decode cX10_seatsIn 19 = .ok (.getfield 43, 3) := by decide +kernel
theorem dX10_seatsIn_22 : decode cX10_seatsIn 22 = .ok (.iload_n 3, 1) := by decide +kernel
theorem dX10_seatsIn_23 : decode cX10_seatsIn 23 = .ok (.iaload, 1) := by decide +kernel
theorem dX10_seatsIn_24 : decode cX10_seatsIn 24 = .ok (.imul, 1) := by decide +kernel
theorem dX10_seatsIn_25 : decode cX10_seatsIn 25 = .ok (.iadd, 1) := by decide +kernel
theorem dX10_seatsIn_26 : decode cX10_seatsIn 26 = .ok (.istore_n 2, 1) := by decide +kernel
theorem dX10_seatsIn_27 : decode cX10_seatsIn 27 = .ok (.iinc 3 1, 3) := by decide +kernel
theorem dX10_seatsIn_30 : decode cX10_seatsIn 30 = .ok (.goto (-26), 3) := by decide +kernel
theorem dX10_seatsIn_33 : decode cX10_seatsIn 33 = .ok (.iload_n 2, 1) := by decide +kernel
theorem dX10_seatsIn_34 : decode cX10_seatsIn 34 = .ok (.ireturn, 1) := by decide +kernel
theorem dX10_allLadies_0 : decode cX10_allLadies 0 = .ok (.iconst 1, 1) := by decide +kernel
theorem dX10_allLadies_1 : decode cX10_allLadies 1 = .ok (.aload_n 0, 1) := by decide +kernel
theorem dX10_allLadies_2 : decode cX10_allLadies 2 = .ok (.invokevirtual 244, 3) := by decide +kernel
theorem dX10_allLadies_5 : decode cX10_allLadies 5 = .ok (.ishl, 1) := by decide +kernel
theorem dX10_allLadies_6 : decode cX10_allLadies 6 = .ok (.iconst 1, 1) := by decide +kernel
theorem dX10_allLadies_7 : decode cX10_allLadies 7 = .ok (.isub, 1) := by decide +kernel
theorem dX10_allLadies_8 : decode cX10_allLadies 8 = .ok (.ireturn, 1) := by decide +kernel
theorem dX10_doesHold_0 : decode cX10_doesHold 0 = .ok (.iconst 2, 1) := by decide +kernel
theorem dX10_doesHold_1 : decode cX10_doesHold 1 = .ok (.aload_n 0, 1) := by decide +kernel
theorem dX10_doesHold_2 : decode cX10_doesHold 2 = .ok (.iload_n 1, 1) := by decide +kernel
theorem dX10_doesHold_3 : decode cX10_doesHold 3 = .ok (.invokevirtual 390, 3) := by decide +kernel
theorem dX10_doesHold_6 : decode cX10_doesHold 6 = .ok (.imul, 1) := by decide +kernel
theorem dX10_doesHold_7 : decode cX10_doesHold 7 = .ok (.aload_n 0, 1) := by decide +kernel
theorem dX10_doesHold_8 : decode cX10_doesHold 8 = .ok (.aload_n 0, 1) := by decide +kernel
theorem dX10_doesHold_9 : decode cX10_doesHold 9 = .ok (.invokevirtual 393, 3) := by decide +kernel
theorem dX10_doesHold_12 : decode cX10_doesHold 12 = .ok (.invokevirtual 390, 3) := by decide +kernel
theorem dX10_doesHold_15 : decode cX10_doesHold 15 = .ok (.if_icmp .le 7, 3) := by decide +kernel
theorem dX10_doesHold_18 : decode cX10_doesHold 18 = .ok (.iconst 1, 1) := by decide +kernel
theorem dX10_doesHold_19 : decode cX10_doesHold 19 = .ok (.goto 4, 3) := by decide +kernel
theorem dX10_doesHold_22 : decode cX10_doesHold 22 = .ok (.iconst 0, 1) := by decide +kernel
theorem dX10_doesHold_23 : decode cX10_doesHold 23 = .ok (.ireturn, 1) := by decide +kernel
theorem dX10_powerOf_0 : decode cX10_powerOf 0 = .ok (.iconst 0, 1) := by decide +kernel
theorem dX10_powerOf_1 : decode cX10_powerOf 1 = .ok (.istore_n 2, 1) := by decide +kernel
theorem dX10_powerOf_2 : decode cX10_powerOf 2 = .ok (.iconst 0, 1) := by decide +kernel
theorem dX10_powerOf_3 : decode cX10_powerOf 3 = .ok (.istore_n 3, 1) := by decide +kernel
theorem dX10_powerOf_4 : decode cX10_powerOf 4 = .ok (.iload_n 3, 1) := by decide +kernel
theorem dX10_powerOf_5 : decode cX10_powerOf 5 = .ok (.aload_n 0, 1) := by decide +kernel
theorem dX10_powerOf_6 : decode cX10_powerOf 6 = .ok (.invokevirtual 393, 3) := by decide +kernel
theorem dX10_powerOf_9 : decode cX10_powerOf 9 = .ok (.if_icmp .gt 48, 3) := by decide +kernel
theorem dX10_powerOf_12 : decode cX10_powerOf 12 = .ok (.iload_n 2, 1) := by decide +kernel
theorem dX10_powerOf_13 : decode cX10_powerOf 13 = .ok (.iload_n 3, 1) := by decide +kernel
theorem dX10_powerOf_14 : decode cX10_powerOf 14 = .ok (.iload_n 1, 1) := by decide +kernel
theorem dX10_powerOf_15 : decode cX10_powerOf 15 = .ok (.invokestatic 252, 3) := by decide +kernel
theorem dX10_powerOf_18 : decode cX10_powerOf 18 = .ok (.iconst 1, 1) := by decide +kernel
theorem dX10_powerOf_19 : decode cX10_powerOf 19 = .ok (.if_icmp .ne 29, 3) := by decide +kernel
theorem dX10_powerOf_22 : decode cX10_powerOf 22 = .ok (.aload_n 0, 1) := by decide +kernel
theorem dX10_powerOf_23 : decode cX10_powerOf 23 = .ok (.iload_n 3, 1) := by decide +kernel
theorem dX10_powerOf_24 : decode cX10_powerOf 24 = .ok (.invokevirtual 396, 3) := by decide +kernel
theorem dX10_powerOf_27 : decode cX10_powerOf 27 = .ok (.ifCond .eq 21, 3) := by decide +kernel
theorem dX10_powerOf_30 : decode cX10_powerOf 30 = .ok (.aload_n 0, 1) := by decide +kernel
theorem dX10_powerOf_31 : decode cX10_powerOf 31 = .ok (.iload_n 3, 1) := by decide +kernel
theorem dX10_powerOf_32 : decode cX10_powerOf 32 = .ok (.iconst 1, 1) := by decide +kernel
theorem dX10_powerOf_33 : decode cX10_powerOf 33 = .ok (.iload_n 1, 1) := by decide +kernel
theorem dX10_powerOf_34 : decode cX10_powerOf 34 = .ok (.ishl, 1) := by decide +kernel
theorem dX10_powerOf_35 : decode cX10_powerOf 35 = .ok (.iconst (-1), 1) := by decide +kernel
theorem dX10_powerOf_36 : decode cX10_powerOf 36 = .ok (.ixor, 1) := by decide +kernel
theorem dX10_powerOf_37 : decode cX10_powerOf 37 = .ok (.iand, 1) := by decide +kernel
theorem dX10_powerOf_38 : decode cX10_powerOf 38 = .ok (.invokevirtual 396, 3) := by decide +kernel
theorem dX10_powerOf_41 : decode cX10_powerOf 41 = .ok (.ifCond .ne 7, 3) := by decide +kernel
theorem dX10_powerOf_44 : decode cX10_powerOf 44 = .ok (.iconst 1, 1) := by decide +kernel
theorem dX10_powerOf_45 : decode cX10_powerOf 45 = .ok (.goto 4, 3) := by decide +kernel
theorem dX10_powerOf_48 : decode cX10_powerOf 48 = .ok (.iconst 0, 1) := by decide +kernel
theorem dX10_powerOf_49 : decode cX10_powerOf 49 = .ok (.iadd, 1) := by decide +kernel
theorem dX10_powerOf_50 : decode cX10_powerOf 50 = .ok (.istore_n 2, 1) := by decide +kernel
theorem dX10_powerOf_51 : decode cX10_powerOf 51 = .ok (.iinc 3 1, 3) := by decide +kernel
theorem dX10_powerOf_54 : decode cX10_powerOf 54 = .ok (.goto (-50), 3) := by decide +kernel
theorem dX10_powerOf_57 : decode cX10_powerOf 57 = .ok (.iload_n 2, 1) := by decide +kernel
theorem dX10_powerOf_58 : decode cX10_powerOf 58 = .ok (.ireturn, 1) := by decide +kernel
theorem dX10_seats_0 : decode cX10_seats 0 = .ok (.aload_n 0, 1) := by decide +kernel
theorem dX10_seats_1 : decode cX10_seats 1 = .ok (.iload_n 1, 1) := by decide +kernel
theorem dX10_seats_2 : decode cX10_seats 2 = .ok (.invokevirtual 288, 3) := by decide +kernel
theorem dX10_seats_5 : decode cX10_seats 5 = .ok (.ifCond .eq 12, 3) := by decide +kernel
theorem dX10_seats_8 : decode cX10_seats 8 = .ok (.aload_n 0, 1) := by decide +kernel
theorem dX10_seats_9 : decode cX10_seats 9 = .ok (.getfield 43, 3) := by decide +kernel
theorem dX10_seats_12 : decode cX10_seats 12 = .ok (.iload_n 1, 1) := by decide +kernel
theorem dX10_seats_13 : decode cX10_seats 13 = .ok (.iaload, 1) := by decide +kernel
theorem dX10_seats_14 : decode cX10_seats 14 = .ok (.goto 5, 3) := by decide +kernel
theorem dX10_seats_17 : decode cX10_seats 17 = .ok (.bipush (-2), 2) := by decide +kernel
theorem dX10_seats_19 : decode cX10_seats 19 = .ok (.ireturn, 1) := by decide +kernel
theorem dX10_under_0 : decode cX10_under 0 = .ok (.aload_n 0, 1) := by decide +kernel
theorem dX10_under_1 : decode cX10_under 1 = .ok (.iload_n 1, 1) := by decide +kernel
theorem dX10_under_2 : decode cX10_under 2 = .ok (.invokevirtual 288, 3) := by decide +kernel
theorem dX10_under_5 : decode cX10_under 5 = .ok (.ifCond .ne 6, 3) := by decide +kernel
theorem dX10_under_8 : decode cX10_under 8 = .ok (.bipush (-2), 2) := by decide +kernel
theorem dX10_under_10 : decode cX10_under 10 = .ok (.ireturn, 1) := by decide +kernel
theorem dX10_under_11 : decode cX10_under 11 = .ok (.iconst 0, 1) := by decide +kernel
theorem dX10_under_12 : decode cX10_under 12 = .ok (.istore_n 2, 1) := by decide +kernel
theorem dX10_under_13 : decode cX10_under 13 = .ok (.iconst 0, 1) := by decide +kernel
theorem dX10_under_14 : decode cX10_under 14 = .ok (.istore_n 3, 1) := by decide +kernel
theorem dX10_under_15 : decode cX10_under 15 = .ok (.iload_n 3, 1) := by decide +kernel
theorem dX10_under_16 : decode cX10_under 16 = .ok (.aload_n 0, 1) := by decide +kernel
theorem dX10_under_17 : decode cX10_under 17 = .ok (.getfield 9, 3) := by decide +kernel
theorem dX10_under_20 : decode cX10_under 20 = .ok (.bipush 6, 2) := by decide +kernel
theorem dX10_under_22 : decode cX10_under 22 = .ok (.iaload, 1) := by decide +kernel
theorem dX10_under_23 : decode cX10_under 23 = .ok (.if_icmp .ge 29, 3) := by decide +kernel
theorem dX10_under_26 : decode cX10_under 26 = .ok (.iload_n 2, 1) := by decide +kernel
theorem dX10_under_27 : decode cX10_under 27 = .ok (.aload_n 0, 1) := by decide +kernel
theorem dX10_under_28 : decode cX10_under 28 = .ok (.getfield 40, 3) := by decide +kernel
theorem dX10_under_31 : decode cX10_under 31 = .ok (.iload_n 3, 1) := by decide +kernel
theorem dX10_under_32 : decode cX10_under 32 = .ok (.iaload, 1) := by decide +kernel
theorem dX10_under_33 : decode cX10_under 33 = .ok (.iload_n 1, 1) := by decide +kernel
theorem dX10_under_34 : decode cX10_under 34 = .ok (.if_icmp .ne 9, 3) := by decide +kernel
theorem dX10_under_37 : decode cX10_under 37 = .ok (.iconst 1, 1) := by decide +kernel
theorem dX10_under_38 : decode cX10_under 38 = .ok (.iload_n 3, 1) := by decide +kernel
theorem dX10_under_39 : decode cX10_under 39 = .ok (.ishl, 1) := by decide +kernel
theorem dX10_under_40 : decode cX10_under 40 = .ok (.goto 4, 3) := by decide +kernel
theorem dX10_under_43 : decode cX10_under 43 = .ok (.iconst 0, 1) := by decide +kernel
theorem dX10_under_44 : decode cX10_under 44 = .ok (.ior, 1) := by decide +kernel
theorem dX10_under_45 : decode cX10_under 45 = .ok (.istore_n 2, 1) := by decide +kernel
theorem dX10_under_46 : decode cX10_under 46 = .ok (.iinc 3 1, 3) := by decide +kernel
theorem dX10_under_49 : decode cX10_under 49 = .ok (.goto (-34), 3) := by decide +kernel
theorem dX10_under_52 : decode cX10_under 52 = .ok (.iload_n 2, 1) := by decide +kernel
theorem dX10_under_53 : decode cX10_under 53 = .ok (.ireturn, 1) := by decide +kernel
theorem dX10_holds_0 : decode cX10_holds 0 = .ok (.aload_n 0, 1) := by decide +kernel
theorem dX10_holds_1 : decode cX10_holds 1 = .ok (.invokevirtual 279, 3) := by decide +kernel
theorem dX10_holds_4 : decode cX10_holds 4 = .ok (.aload_n 0, 1) := by decide +kernel
theorem dX10_holds_5 : decode cX10_holds 5 = .ok (.iload_n 1, 1) := by decide +kernel
theorem dX10_holds_6 : decode cX10_holds 6 = .ok (.invokevirtual 399, 3) := by decide +kernel
theorem dX10_holds_9 : decode cX10_holds 9 = .ok (.ifCond .eq 19, 3) := by decide +kernel
theorem dX10_holds_12 : decode cX10_holds 12 = .ok (.aload_n 0, 1) := by decide +kernel
theorem dX10_holds_13 : decode cX10_holds 13 = .ok (.iload_n 1, 1) := by decide +kernel
theorem dX10_holds_14 : decode cX10_holds 14 = .ok (.invokevirtual 396, 3) := by decide +kernel
theorem dX10_holds_17 : decode cX10_holds 17 = .ok (.ifCond .eq 7, 3) := by decide +kernel
theorem dX10_holds_20 : decode cX10_holds 20 = .ok (.iconst 1, 1) := by decide +kernel
theorem dX10_holds_21 : decode cX10_holds 21 = .ok (.goto 9, 3) := by decide +kernel
theorem dX10_holds_24 : decode cX10_holds 24 = .ok (.iconst 0, 1) := by decide +kernel
theorem dX10_holds_25 : decode cX10_holds 25 = .ok (.goto 5, 3) := by decide +kernel
theorem dX10_holds_28 : decode cX10_holds 28 = .ok (.bipush (-2), 2) := by decide +kernel
theorem dX10_holds_30 : decode cX10_holds 30 = .ok (.ireturn, 1) := by decide +kernel
theorem dX10_blocks_0 : decode cX10_blocks 0 = .ok (.aload_n 0, 1) := by decide +kernel
theorem dX10_blocks_1 : decode cX10_blocks 1 = .ok (.invokevirtual 279, 3) := by decide +kernel
theorem dX10_blocks_4 : decode cX10_blocks 4 = .ok (.aload_n 0, 1) := by decide +kernel
theorem dX10_blocks_5 : decode cX10_blocks 5 = .ok (.iload_n 1, 1) := by decide +kernel
theorem dX10_blocks_6 : decode cX10_blocks 6 = .ok (.invokevirtual 399, 3) := by decide +kernel
theorem dX10_blocks_9 : decode cX10_blocks 9 = .ok (.ifCond .eq 26, 3) := by decide +kernel
theorem dX10_blocks_12 : decode cX10_blocks 12 = .ok (.aload_n 0, 1) := by decide +kernel
theorem dX10_blocks_13 : decode cX10_blocks 13 = .ok (.aload_n 0, 1) := by decide +kernel
theorem dX10_blocks_14 : decode cX10_blocks 14 = .ok (.invokevirtual 393, 3) := by decide +kernel
theorem dX10_blocks_17 : decode cX10_blocks 17 = .ok (.iload_n 1, 1) := by decide +kernel
theorem dX10_blocks_18 : decode cX10_blocks 18 = .ok (.iconst (-1), 1) := by decide +kernel
theorem dX10_blocks_19 : decode cX10_blocks 19 = .ok (.ixor, 1) := by decide +kernel
theorem dX10_blocks_20 : decode cX10_blocks 20 = .ok (.iand, 1) := by decide +kernel
theorem dX10_blocks_21 : decode cX10_blocks 21 = .ok (.invokevirtual 396, 3) := by decide +kernel
theorem dX10_blocks_24 : decode cX10_blocks 24 = .ok (.ifCond .eq 7, 3) := by decide +kernel
theorem dX10_blocks_27 : decode cX10_blocks 27 = .ok (.iconst 0, 1) := by decide +kernel
theorem dX10_blocks_28 : decode cX10_blocks 28 = .ok (.goto 9, 3) := by decide +kernel
theorem dX10_blocks_31 : decode cX10_blocks 31 = .ok (.iconst 1, 1) := by decide +kernel
theorem dX10_blocks_32 : decode cX10_blocks 32 = .ok (.goto 5, 3) := by decide +kernel
theorem dX10_blocks_35 : decode cX10_blocks 35 = .ok (.bipush (-2), 2) := by decide +kernel
theorem dX10_blocks_37 : decode cX10_blocks 37 = .ok (.ireturn, 1) := by decide +kernel
theorem dX10_power_0 : decode cX10_power 0 = .ok (.aload_n 0, 1) := by decide +kernel
theorem dX10_power_1 : decode cX10_power 1 = .ok (.iload_n 1, 1) := by decide +kernel
theorem dX10_power_2 : decode cX10_power 2 = .ok (.invokevirtual 288, 3) := by decide +kernel
theorem dX10_power_5 : decode cX10_power 5 = .ok (.ifCond .eq 11, 3) := by decide +kernel
theorem dX10_power_8 : decode cX10_power 8 = .ok (.aload_n 0, 1) := by decide +kernel
theorem dX10_power_9 : decode cX10_power 9 = .ok (.iload_n 1, 1) := by decide +kernel
theorem dX10_power_10 : decode cX10_power 10 = .ok (.invokevirtual 402, 3) := by decide +kernel
theorem dX10_power_13 : decode cX10_power 13 = .ok (.goto 5, 3) := by decide +kernel
theorem dX10_power_16 : decode cX10_power 16 = .ok (.bipush (-2), 2) := by decide +kernel
theorem dX10_power_18 : decode cX10_power 18 = .ok (.ireturn, 1) := by decide +kernel
theorem dX10_divisor_0 : decode cX10_divisor 0 = .ok (.lload_n 0, 1) := by decide +kernel
theorem dX10_divisor_1 : decode cX10_divisor 1 = .ok (.lstore 4, 2) := by decide +kernel
theorem dX10_divisor_3 : decode cX10_divisor 3 = .ok (.lload_n 2, 1) := by decide +kernel
theorem dX10_divisor_4 : decode cX10_divisor 4 = .ok (.lstore 6, 2) := by decide +kernel
theorem dX10_divisor_6 : decode cX10_divisor 6 = .ok (.lload 6, 2) := by decide +kernel
theorem dX10_divisor_8 : decode cX10_divisor 8 = .ok (.lconst 0, 1) := by decide +kernel
theorem dX10_divisor_9 : decode cX10_divisor 9 = .ok (.lcmp, 1) := by decide +kernel
theorem dX10_divisor_10 : decode cX10_divisor 10 = .ok (.ifCond .eq 21, 3) := by decide +kernel
theorem dX10_divisor_13 : decode cX10_divisor 13 = .ok (.lload 4, 2) := by decide +kernel
theorem dX10_divisor_15 : decode cX10_divisor 15 = .ok (.lload 6, 2) := by decide +kernel
theorem dX10_divisor_17 : decode cX10_divisor 17 = .ok (.lrem, 1) := by decide +kernel
theorem dX10_divisor_18 : decode cX10_divisor 18 = .ok (.lstore 8, 2) := by decide +kernel
theorem dX10_divisor_20 : decode cX10_divisor 20 = .ok (.lload 6, 2) := by decide +kernel
theorem dX10_divisor_22 : decode cX10_divisor 22 = .ok (.lstore 4, 2) := by decide +kernel
theorem dX10_divisor_24 : decode cX10_divisor 24 = .ok (.lload 8, 2) := by decide +kernel
theorem dX10_divisor_26 : decode cX10_divisor 26 = .ok (.lstore 6, 2) := by decide +kernel
theorem dX10_divisor_28 : decode cX10_divisor 28 = .ok (.goto (-22), 3) := by decide +kernel
theorem dX10_divisor_31 : decode cX10_divisor 31 = .ok (.lload 4, 2) := by decide +kernel
theorem dX10_divisor_33 : decode cX10_divisor 33 = .ok (.lreturn, 1) := by decide +kernel
theorem dX10_lowest_0 : decode cX10_lowest 0 = .ok (.iload 4, 2) := by decide +kernel
theorem dX10_lowest_2 : decode cX10_lowest 2 = .ok (.ifCond .ne 7, 3) := by decide +kernel
theorem dX10_lowest_5 : decode cX10_lowest 5 = .ok (.lload_n 0, 1) := by decide +kernel
theorem dX10_lowest_6 : decode cX10_lowest 6 = .ok (.goto 4, 3) := by decide +kernel
theorem dX10_lowest_9 : decode cX10_lowest 9 = .ok (.lload_n 2, 1) := by decide +kernel
theorem dX10_lowest_10 : decode cX10_lowest 10 = .ok (.lload_n 0, 1) := by decide +kernel
theorem dX10_lowest_11 : decode cX10_lowest 11 = .ok (.lload_n 2, 1) := by decide +kernel
theorem dX10_lowest_12 : decode cX10_lowest 12 = .ok (.invokestatic 405, 3) := by decide +kernel
theorem dX10_lowest_15 : decode cX10_lowest 15 = .ok (.ldiv, 1) := by decide +kernel
theorem dX10_lowest_16 : decode cX10_lowest 16 = .ok (.lreturn, 1) := by decide +kernel
theorem dX10_part_0 : decode cX10_part 0 = .ok (.aload_n 0, 1) := by decide +kernel
theorem dX10_part_1 : decode cX10_part 1 = .ok (.iload_n 1, 1) := by decide +kernel
theorem dX10_part_2 : decode cX10_part 2 = .ok (.invokevirtual 288, 3) := by decide +kernel
theorem dX10_part_5 : decode cX10_part 5 = .ok (.ifCond .eq 13, 3) := by decide +kernel
theorem dX10_part_8 : decode cX10_part 8 = .ok (.iload_n 2, 1) := by decide +kernel
theorem dX10_part_9 : decode cX10_part 9 = .ok (.i2l, 1) := by decide +kernel
theorem dX10_part_10 : decode cX10_part 10 = .ok (.lconst 0, 1) := by decide +kernel
theorem dX10_part_11 : decode cX10_part 11 = .ok (.lconst 1, 1) := by decide +kernel
theorem dX10_part_12 : decode cX10_part 12 = .ok (.invokestatic 82, 3) := by decide +kernel
theorem dX10_part_15 : decode cX10_part 15 = .ok (.ifCond .ne 6, 3) := by decide +kernel
theorem dX10_part_18 : decode cX10_part 18 = .ok (.bipush (-2), 2) := by decide +kernel
theorem dX10_part_20 : decode cX10_part 20 = .ok (.ireturn, 1) := by decide +kernel
theorem dX10_part_21 : decode cX10_part 21 = .ok (.aload_n 0, 1) := by decide +kernel
theorem dX10_part_22 : decode cX10_part 22 = .ok (.aload_n 0, 1) := by decide +kernel
theorem dX10_part_23 : decode cX10_part 23 = .ok (.invokevirtual 393, 3) := by decide +kernel
theorem dX10_part_26 : decode cX10_part 26 = .ok (.invokevirtual 390, 3) := by decide +kernel
theorem dX10_part_29 : decode cX10_part 29 = .ok (.istore_n 3, 1) := by decide +kernel
theorem dX10_part_30 : decode cX10_part 30 = .ok (.iload_n 3, 1) := by decide +kernel
theorem dX10_part_31 : decode cX10_part 31 = .ok (.ifCond .ne 7, 3) := by decide +kernel
theorem dX10_part_34 : decode cX10_part 34 = .ok (.iconst (-1), 1) := by decide +kernel
theorem dX10_part_35 : decode cX10_part 35 = .ok (.goto 17, 3) := by decide +kernel
theorem dX10_part_38 : decode cX10_part 38 = .ok (.aload_n 0, 1) := by decide +kernel
theorem dX10_part_39 : decode cX10_part 39 = .ok (.getfield 43, 3) := by decide +kernel
theorem dX10_part_42 : decode cX10_part 42 = .ok (.iload_n 1, 1) := by decide +kernel
theorem dX10_part_43 : decode cX10_part 43 = .ok (.iaload, 1) := by decide +kernel
theorem dX10_part_44 : decode cX10_part 44 = .ok (.i2l, 1) := by decide +kernel
theorem dX10_part_45 : decode cX10_part 45 = .ok (.iload_n 3, 1) := by decide +kernel
theorem dX10_part_46 : decode cX10_part 46 = .ok (.i2l, 1) := by decide +kernel
theorem dX10_part_47 : decode cX10_part 47 = .ok (.iload_n 2, 1) := by decide +kernel
theorem dX10_part_48 : decode cX10_part 48 = .ok (.invokestatic 409, 3) := by decide +kernel
theorem dX10_part_51 : decode cX10_part 51 = .ok (.l2i, 1) := by decide +kernel
theorem dX10_part_52 : decode cX10_part 52 = .ok (.ireturn, 1) := by decide +kernel
theorem dX10_dummies_0 : decode cX10_dummies 0 = .ok (.aload_n 0, 1) := by decide +kernel
theorem dX10_dummies_1 : decode cX10_dummies 1 = .ok (.invokevirtual 322, 3) := by decide +kernel
theorem dX10_dummies_4 : decode cX10_dummies 4 = .ok (.ifCond .ne 6, 3) := by decide +kernel
theorem dX10_dummies_7 : decode cX10_dummies 7 = .ok (.bipush (-2), 2) := by decide +kernel
theorem dX10_dummies_9 : decode cX10_dummies 9 = .ok (.ireturn, 1) := by decide +kernel
theorem dX10_dummies_10 : decode cX10_dummies 10 = .ok (.iconst 0, 1) := by decide +kernel
theorem dX10_dummies_11 : decode cX10_dummies 11 = .ok (.istore_n 1, 1) := by decide +kernel
theorem dX10_dummies_12 : decode cX10_dummies 12 = .ok (.iconst 0, 1) := by decide +kernel
theorem dX10_dummies_13 : decode cX10_dummies 13 = .ok (.istore_n 2, 1) := by decide +kernel
theorem dX10_dummies_14 : decode cX10_dummies 14 = .ok (.iload_n 2, 1) := by decide +kernel
theorem dX10_dummies_15 : decode cX10_dummies 15 = .ok (.aload_n 0, 1) := by decide +kernel
theorem dX10_dummies_16 : decode cX10_dummies 16 = .ok (.invokevirtual 244, 3) := by decide +kernel
theorem dX10_dummies_19 : decode cX10_dummies 19 = .ok (.if_icmp .ge 27, 3) := by decide +kernel
theorem dX10_dummies_22 : decode cX10_dummies 22 = .ok (.iload_n 1, 1) := by decide +kernel
theorem dX10_dummies_23 : decode cX10_dummies 23 = .ok (.aload_n 0, 1) := by decide +kernel
theorem dX10_dummies_24 : decode cX10_dummies 24 = .ok (.iload_n 2, 1) := by decide +kernel
theorem dX10_dummies_25 : decode cX10_dummies 25 = .ok (.invokevirtual 402, 3) := by decide +kernel
theorem dX10_dummies_28 : decode cX10_dummies 28 = .ok (.ifCond .ne 9, 3) := by decide +kernel
theorem dX10_dummies_31 : decode cX10_dummies 31 = .ok (.iconst 1, 1) := by decide +kernel
theorem dX10_dummies_32 : decode cX10_dummies 32 = .ok (.iload_n 2, 1) := by decide +kernel
theorem dX10_dummies_33 : decode cX10_dummies 33 = .ok (.ishl, 1) := by decide +kernel
theorem dX10_dummies_34 : decode cX10_dummies 34 = .ok (.goto 4, 3) := by decide +kernel
theorem dX10_dummies_37 : decode cX10_dummies 37 = .ok (.iconst 0, 1) := by decide +kernel
theorem dX10_dummies_38 : decode cX10_dummies 38 = .ok (.ior, 1) := by decide +kernel
theorem dX10_dummies_39 : decode cX10_dummies 39 = .ok (.istore_n 1, 1) := by decide +kernel
theorem dX10_dummies_40 : decode cX10_dummies 40 = .ok (.iinc 2 1, 3) := by decide +kernel
theorem dX10_dummies_43 : decode cX10_dummies 43 = .ok (.goto (-29), 3) := by decide +kernel
theorem dX10_dummies_46 : decode cX10_dummies 46 = .ok (.iload_n 1, 1) := by decide +kernel
theorem dX10_dummies_47 : decode cX10_dummies 47 = .ok (.ireturn, 1) := by decide +kernel
theorem dX10_strongest_0 : decode cX10_strongest 0 = .ok (.aload_n 0, 1) := by decide +kernel
theorem dX10_strongest_1 : decode cX10_strongest 1 = .ok (.invokevirtual 322, 3) := by decide +kernel
theorem dX10_strongest_4 : decode cX10_strongest 4 = .ok (.ifCond .ne 6, 3) := by decide +kernel
theorem dX10_strongest_7 : decode cX10_strongest 7 = .ok (.bipush (-2), 2) := by decide +kernel
theorem dX10_strongest_9 : decode cX10_strongest 9 = .ok (.ireturn, 1) := by decide +kernel
theorem dX10_strongest_10 : decode cX10_strongest 10 = .ok (.iconst (-1), 1) := by decide +kernel
theorem dX10_strongest_11 : decode cX10_strongest 11 = .ok (.istore_n 1, 1) := by decide +kernel
theorem dX10_strongest_12 : decode cX10_strongest 12 = .ok (.iconst 0, 1) := by decide +kernel
theorem dX10_strongest_13 : decode cX10_strongest 13 = .ok (.istore_n 2, 1) := by decide +kernel
theorem dX10_strongest_14 : decode cX10_strongest 14 = .ok (.iconst 0, 1) := by decide +kernel
theorem dX10_strongest_15 : decode cX10_strongest 15 = .ok (.istore_n 3, 1) := by decide +kernel
theorem dX10_strongest_16 : decode cX10_strongest 16 = .ok (.iload_n 3, 1) := by decide +kernel
theorem dX10_strongest_17 : decode cX10_strongest 17 = .ok (.aload_n 0, 1) := by decide +kernel
theorem dX10_strongest_18 : decode cX10_strongest 18 = .ok (.invokevirtual 244, 3) := by decide +kernel
theorem dX10_strongest_21 : decode cX10_strongest 21 = .ok (.if_icmp .ge 29, 3) := by decide +kernel
theorem dX10_strongest_24 : decode cX10_strongest 24 = .ok (.aload_n 0, 1) := by decide +kernel
theorem dX10_strongest_25 : decode cX10_strongest 25 = .ok (.iload_n 3, 1) := by decide +kernel
theorem dX10_strongest_26 : decode cX10_strongest 26 = .ok (.invokevirtual 402, 3) := by decide +kernel
theorem dX10_strongest_29 : decode cX10_strongest 29 = .ok (.iload_n 2, 1) := by decide +kernel
theorem dX10_strongest_30 : decode cX10_strongest 30 = .ok (.if_icmp .gt 6, 3) := by decide +kernel
theorem dX10_strongest_33 : decode cX10_strongest 33 = .ok (.goto 11, 3) := by decide +kernel
theorem dX10_strongest_36 : decode cX10_strongest 36 = .ok (.aload_n 0, 1) := by decide +kernel
theorem dX10_strongest_37 : decode cX10_strongest 37 = .ok (.iload_n 3, 1) := by decide +kernel
theorem dX10_strongest_38 : decode cX10_strongest 38 = .ok (.invokevirtual 402, 3) := by decide +kernel
theorem dX10_strongest_41 : decode cX10_strongest 41 = .ok (.istore_n 2, 1) := by decide +kernel
theorem dX10_strongest_42 : decode cX10_strongest 42 = .ok (.iload_n 3, 1) := by decide +kernel
theorem dX10_strongest_43 : decode cX10_strongest 43 = .ok (.istore_n 1, 1) := by decide +kernel
theorem dX10_strongest_44 : decode cX10_strongest 44 = .ok (.iinc 3 1, 3) := by decide +kernel
theorem dX10_strongest_47 : decode cX10_strongest 47 = .ok (.goto (-31), 3) := by decide +kernel
theorem dX10_strongest_50 : decode cX10_strongest 50 = .ok (.iload_n 1, 1) := by decide +kernel
theorem dX10_strongest_51 : decode cX10_strongest 51 = .ok (.ireturn, 1) := by decide +kernel
theorem dX10_cabinet_0 : decode cX10_cabinet 0 = .ok (.aload_n 0, 1) := by decide +kernel
theorem dX10_cabinet_1 : decode cX10_cabinet 1 = .ok (.invokevirtual 322, 3) := by decide +kernel
theorem dX10_cabinet_4 : decode cX10_cabinet 4 = .ok (.ifCond .ne 6, 3) := by decide +kernel
theorem dX10_cabinet_7 : decode cX10_cabinet 7 = .ok (.bipush (-2), 2) := by decide +kernel
theorem dX10_cabinet_9 : decode cX10_cabinet 9 = .ok (.ireturn, 1) := by decide +kernel
theorem dX10_cabinet_10 : decode cX10_cabinet 10 = .ok (.iconst (-1), 1) := by decide +kernel
theorem dX10_cabinet_11 : decode cX10_cabinet 11 = .ok (.istore_n 1, 1) := by decide +kernel
theorem dX10_cabinet_12 : decode cX10_cabinet 12 = .ok (.iconst 0, 1) := by decide +kernel
theorem dX10_cabinet_13 : decode cX10_cabinet 13 = .ok (.istore_n 2, 1) := by decide +kernel
theorem dX10_cabinet_14 : decode cX10_cabinet 14 = .ok (.iload_n 2, 1) := by decide +kernel
theorem dX10_cabinet_15 : decode cX10_cabinet 15 = .ok (.aload_n 0, 1) := by decide +kernel
theorem dX10_cabinet_16 : decode cX10_cabinet 16 = .ok (.invokevirtual 393, 3) := by decide +kernel
theorem dX10_cabinet_19 : decode cX10_cabinet 19 = .ok (.if_icmp .gt 35, 3) := by decide +kernel
theorem dX10_cabinet_22 : decode cX10_cabinet 22 = .ok (.aload_n 0, 1) := by decide +kernel
theorem dX10_cabinet_23 : decode cX10_cabinet 23 = .ok (.iload_n 2, 1) := by decide +kernel
theorem dX10_cabinet_24 : decode cX10_cabinet 24 = .ok (.invokevirtual 396, 3) := by decide +kernel
theorem dX10_cabinet_27 : decode cX10_cabinet 27 = .ok (.ifCond .eq 21, 3) := by decide +kernel
theorem dX10_cabinet_30 : decode cX10_cabinet 30 = .ok (.iload_n 1, 1) := by decide +kernel
theorem dX10_cabinet_31 : decode cX10_cabinet 31 = .ok (.iconst (-1), 1) := by decide +kernel
theorem dX10_cabinet_32 : decode cX10_cabinet 32 = .ok (.if_icmp .eq 14, 3) := by decide +kernel
theorem dX10_cabinet_35 : decode cX10_cabinet 35 = .ok (.iload_n 2, 1) := by decide +kernel
theorem dX10_cabinet_36 : decode cX10_cabinet 36 = .ok (.invokestatic 319, 3) := by decide +kernel
theorem dX10_cabinet_39 : decode cX10_cabinet 39 = .ok (.iload_n 1, 1) := by decide +kernel
theorem dX10_cabinet_40 : decode cX10_cabinet 40 = .ok (.invokestatic 319, 3) := by decide +kernel
theorem dX10_cabinet_43 : decode cX10_cabinet 43 = .ok (.if_icmp .ge 5, 3) := by decide +kernel
theorem dX10_cabinet_46 : decode cX10_cabinet 46 = .ok (.iload_n 2, 1) := by decide +kernel
theorem dX10_cabinet_47 : decode cX10_cabinet 47 = .ok (.istore_n 1, 1) := by decide +kernel
theorem dX10_cabinet_48 : decode cX10_cabinet 48 = .ok (.iinc 2 1, 3) := by decide +kernel
theorem dX10_cabinet_51 : decode cX10_cabinet 51 = .ok (.goto (-37), 3) := by decide +kernel
theorem dX10_cabinet_54 : decode cX10_cabinet 54 = .ok (.iload_n 1, 1) := by decide +kernel
theorem dX10_cabinet_55 : decode cX10_cabinet 55 = .ok (.ireturn, 1) := by decide +kernel
theorem dX10_isLeast_0 : decode cX10_isLeast 0 = .ok (.aload_n 0, 1) := by decide +kernel
theorem dX10_isLeast_1 : decode cX10_isLeast 1 = .ok (.iload_n 1, 1) := by decide +kernel
theorem dX10_isLeast_2 : decode cX10_isLeast 2 = .ok (.invokevirtual 396, 3) := by decide +kernel
theorem dX10_isLeast_5 : decode cX10_isLeast 5 = .ok (.ifCond .ne 5, 3) := by decide +kernel
theorem dX10_isLeast_8 : decode cX10_isLeast 8 = .ok (.iconst 0, 1) := by decide +kernel
theorem dX10_isLeast_9 : decode cX10_isLeast 9 = .ok (.ireturn, 1) := by decide +kernel
theorem dX10_isLeast_10 : decode cX10_isLeast 10 = .ok (.iconst 0, 1) := by decide +kernel
theorem dX10_isLeast_11 : decode cX10_isLeast 11 = .ok (.istore_n 2, 1) := by decide +kernel
theorem dX10_isLeast_12 : decode cX10_isLeast 12 = .ok (.iload_n 2, 1) := by decide +kernel
theorem dX10_isLeast_13 : decode cX10_isLeast 13 = .ok (.aload_n 0, 1) := by decide +kernel
theorem dX10_isLeast_14 : decode cX10_isLeast 14 = .ok (.invokevirtual 244, 3) := by decide +kernel
theorem dX10_isLeast_17 : decode cX10_isLeast 17 = .ok (.if_icmp .ge 34, 3) := by decide +kernel
theorem dX10_isLeast_20 : decode cX10_isLeast 20 = .ok (.iload_n 1, 1) := by decide +kernel
theorem dX10_isLeast_21 : decode cX10_isLeast 21 = .ok (.iload_n 2, 1) := by decide +kernel
theorem dX10_isLeast_22 : decode cX10_isLeast 22 = .ok (.invokestatic 252, 3) := by decide +kernel
theorem dX10_isLeast_25 : decode cX10_isLeast 25 = .ok (.iconst 1, 1) := by decide +kernel
theorem dX10_isLeast_26 : decode cX10_isLeast 26 = .ok (.if_icmp .ne 19, 3) := by decide +kernel
theorem dX10_isLeast_29 : decode cX10_isLeast 29 = .ok (.aload_n 0, 1) := by decide +kernel
theorem dX10_isLeast_30 : decode cX10_isLeast 30 = .ok (.iload_n 1, 1) := by decide +kernel
theorem dX10_isLeast_31 : decode cX10_isLeast 31 = .ok (.iconst 1, 1) := by decide +kernel
theorem dX10_isLeast_32 : decode cX10_isLeast 32 = .ok (.iload_n 2, 1) := by decide +kernel
theorem dX10_isLeast_33 : decode cX10_isLeast 33 = .ok (.ishl, 1) := by decide +kernel
theorem dX10_isLeast_34 : decode cX10_isLeast 34 = .ok (.iconst (-1), 1) := by decide +kernel
theorem dX10_isLeast_35 : decode cX10_isLeast 35 = .ok (.ixor, 1) := by decide +kernel
theorem dX10_isLeast_36 : decode cX10_isLeast 36 = .ok (.iand, 1) := by decide +kernel
theorem dX10_isLeast_37 : decode cX10_isLeast 37 = .ok (.invokevirtual 396, 3) := by decide +kernel
theorem dX10_isLeast_40 : decode cX10_isLeast 40 = .ok (.ifCond .eq 5, 3) := by decide +kernel
theorem dX10_isLeast_43 : decode cX10_isLeast 43 = .ok (.iconst 0, 1) := by decide +kernel
theorem dX10_isLeast_44 : decode cX10_isLeast 44 = .ok (.ireturn, 1) := by decide +kernel
theorem dX10_isLeast_45 : decode cX10_isLeast 45 = .ok (.iinc 2 1, 3) := by decide +kernel
theorem dX10_isLeast_48 : decode cX10_isLeast 48 = .ok (.goto (-36), 3) := by decide +kernel
theorem dX10_isLeast_51 : decode cX10_isLeast 51 = .ok (.iconst 1, 1) := by decide +kernel
theorem dX10_isLeast_52 : decode cX10_isLeast 52 = .ok (.ireturn, 1) := by decide +kernel
theorem dX10_cabinets_0 : decode cX10_cabinets 0 = .ok (.aload_n 0, 1) := by decide +kernel
theorem dX10_cabinets_1 : decode cX10_cabinets 1 = .ok (.invokevirtual 322, 3) := by decide +kernel
theorem dX10_cabinets_4 : decode cX10_cabinets 4 = .ok (.ifCond .ne 6, 3) := by decide +kernel
theorem dX10_cabinets_7 : decode cX10_cabinets 7 = .ok (.bipush (-2), 2) := by decide +kernel
theorem dX10_cabinets_9 : decode cX10_cabinets 9 = .ok (.ireturn, 1) := by decide +kernel
theorem dX10_cabinets_10 : decode cX10_cabinets 10 = .ok (.iconst 0, 1) := by decide +kernel
theorem dX10_cabinets_11 : decode cX10_cabinets 11 = .ok (.istore_n 1, 1) := by decide +kernel
theorem dX10_cabinets_12 : decode cX10_cabinets 12 = .ok (.iconst 0, 1) := by decide +kernel
theorem dX10_cabinets_13 : decode cX10_cabinets 13 = .ok (.istore_n 2, 1) := by decide +kernel
theorem dX10_cabinets_14 : decode cX10_cabinets 14 = .ok (.iload_n 2, 1) := by decide +kernel
theorem dX10_cabinets_15 : decode cX10_cabinets 15 = .ok (.aload_n 0, 1) := by decide +kernel
theorem dX10_cabinets_16 : decode cX10_cabinets 16 = .ok (.invokevirtual 393, 3) := by decide +kernel
theorem dX10_cabinets_19 : decode cX10_cabinets 19 = .ok (.if_icmp .gt 25, 3) := by decide +kernel
theorem dX10_cabinets_22 : decode cX10_cabinets 22 = .ok (.iload_n 1, 1) := by decide +kernel
theorem dX10_cabinets_23 : decode cX10_cabinets 23 = .ok (.aload_n 0, 1) := by decide +kernel
theorem dX10_cabinets_24 : decode cX10_cabinets 24 = .ok (.iload_n 2, 1) := by decide +kernel
theorem dX10_cabinets_25 : decode cX10_cabinets 25 = .ok (.invokevirtual 413, 3) := by decide +kernel
theorem dX10_cabinets_28 : decode cX10_cabinets 28 = .ok (.ifCond .eq 7, 3) := by decide +kernel
theorem dX10_cabinets_31 : decode cX10_cabinets 31 = .ok (.iconst 1, 1) := by decide +kernel
theorem dX10_cabinets_32 : decode cX10_cabinets 32 = .ok (.goto 4, 3) := by decide +kernel
theorem dX10_cabinets_35 : decode cX10_cabinets 35 = .ok (.iconst 0, 1) := by decide +kernel
theorem dX10_cabinets_36 : decode cX10_cabinets 36 = .ok (.iadd, 1) := by decide +kernel
theorem dX10_cabinets_37 : decode cX10_cabinets 37 = .ok (.istore_n 1, 1) := by decide +kernel
theorem dX10_cabinets_38 : decode cX10_cabinets 38 = .ok (.iinc 2 1, 3) := by decide +kernel
theorem dX10_cabinets_41 : decode cX10_cabinets 41 = .ok (.goto (-27), 3) := by decide +kernel
theorem dX10_cabinets_44 : decode cX10_cabinets 44 = .ok (.iload_n 1, 1) := by decide +kernel
theorem dX10_cabinets_45 : decode cX10_cabinets 45 = .ok (.ireturn, 1) := by decide +kernel
theorem dX10_kingmaker_0 : decode cX10_kingmaker 0 = .ok (.aload_n 0, 1) := by decide +kernel
theorem dX10_kingmaker_1 : decode cX10_kingmaker 1 = .ok (.invokevirtual 322, 3) := by decide +kernel
theorem dX10_kingmaker_4 : decode cX10_kingmaker 4 = .ok (.ifCond .ne 6, 3) := by decide +kernel
theorem dX10_kingmaker_7 : decode cX10_kingmaker 7 = .ok (.bipush (-2), 2) := by decide +kernel
theorem dX10_kingmaker_9 : decode cX10_kingmaker 9 = .ok (.ireturn, 1) := by decide +kernel
theorem dX10_kingmaker_10 : decode cX10_kingmaker 10 = .ok (.iconst 0, 1) := by decide +kernel
theorem dX10_kingmaker_11 : decode cX10_kingmaker 11 = .ok (.istore_n 1, 1) := by decide +kernel
theorem dX10_kingmaker_12 : decode cX10_kingmaker 12 = .ok (.iload_n 1, 1) := by decide +kernel
theorem dX10_kingmaker_13 : decode cX10_kingmaker 13 = .ok (.aload_n 0, 1) := by decide +kernel
theorem dX10_kingmaker_14 : decode cX10_kingmaker 14 = .ok (.getfield 9, 3) := by decide +kernel
theorem dX10_kingmaker_17 : decode cX10_kingmaker 17 = .ok (.bipush 6, 2) := by decide +kernel
theorem dX10_kingmaker_19 : decode cX10_kingmaker 19 = .ok (.iaload, 1) := by decide +kernel
theorem dX10_kingmaker_20 : decode cX10_kingmaker 20 = .ok (.if_icmp .ge 70, 3) := by decide +kernel
theorem dX10_kingmaker_23 : decode cX10_kingmaker 23 = .ok (.iconst 0, 1) := by decide +kernel
theorem dX10_kingmaker_24 : decode cX10_kingmaker 24 = .ok (.istore_n 2, 1) := by decide +kernel
theorem dX10_kingmaker_25 : decode cX10_kingmaker 25 = .ok (.iload_n 2, 1) := by decide +kernel
theorem dX10_kingmaker_26 : decode cX10_kingmaker 26 = .ok (.aload_n 0, 1) := by decide +kernel
theorem dX10_kingmaker_27 : decode cX10_kingmaker 27 = .ok (.invokevirtual 244, 3) := by decide +kernel
theorem dX10_kingmaker_30 : decode cX10_kingmaker 30 = .ok (.if_icmp .ge 54, 3) := by decide +kernel
theorem dX10_kingmaker_33 : decode cX10_kingmaker 33 = .ok (.aload_n 0, 1) := by decide +kernel
theorem dX10_kingmaker_34 : decode cX10_kingmaker 34 = .ok (.getfield 40, 3) := by decide +kernel
theorem dX10_kingmaker_37 : decode cX10_kingmaker 37 = .ok (.iload_n 1, 1) := by decide +kernel
theorem dX10_kingmaker_38 : decode cX10_kingmaker 38 = .ok (.iaload, 1) := by decide +kernel
theorem dX10_kingmaker_39 : decode cX10_kingmaker 39 = .ok (.iload_n 2, 1) := by decide +kernel
theorem dX10_kingmaker_40 : decode cX10_kingmaker 40 = .ok (.if_icmp .eq 38, 3) := by decide +kernel
theorem dX10_kingmaker_43 : decode cX10_kingmaker 43 = .ok (.iconst 2, 1) := by decide +kernel
theorem dX10_kingmaker_44 : decode cX10_kingmaker 44 = .ok (.aload_n 0, 1) := by decide +kernel
theorem dX10_kingmaker_45 : decode cX10_kingmaker 45 = .ok (.getfield 43, 3) := by decide +kernel
theorem dX10_kingmaker_48 : decode cX10_kingmaker 48 = .ok (.iload_n 2, 1) := by decide +kernel
theorem dX10_kingmaker_49 : decode cX10_kingmaker 49 = .ok (.iaload, 1) := by decide +kernel
theorem dX10_kingmaker_50 : decode cX10_kingmaker 50 = .ok (.aload_n 0, 1) := by decide +kernel
theorem dX10_kingmaker_51 : decode cX10_kingmaker 51 = .ok (.getfield 9, 3) := by decide +kernel
theorem dX10_kingmaker_54 : decode cX10_kingmaker 54 = .ok (.bipush 58, 2) := by decide +kernel
theorem dX10_kingmaker_56 : decode cX10_kingmaker 56 = .ok (.iconst 2, 1) := by decide +kernel
theorem dX10_kingmaker_57 : decode cX10_kingmaker 57 = .ok (.iload_n 1, 1) := by decide +kernel
theorem dX10_kingmaker_58 : decode cX10_kingmaker 58 = .ok (.imul, 1) := by decide +kernel
theorem dX10_kingmaker_59 : decode cX10_kingmaker 59 = .ok (.iadd, 1) := by decide +kernel
theorem dX10_kingmaker_60 : decode cX10_kingmaker 60 = .ok (.iconst 1, 1) := by decide +kernel
theorem dX10_kingmaker_61 : decode cX10_kingmaker 61 = .ok (.iadd, 1) := by decide +kernel
theorem dX10_kingmaker_62 : decode cX10_kingmaker 62 = .ok (.iaload, 1) := by decide +kernel
theorem dX10_kingmaker_63 : decode cX10_kingmaker 63 = .ok (.iadd, 1) := by decide +kernel
theorem dX10_kingmaker_64 : decode cX10_kingmaker 64 = .ok (.imul, 1) := by decide +kernel
theorem dX10_kingmaker_65 : decode cX10_kingmaker 65 = .ok (.aload_n 0, 1) := by decide +kernel
theorem dX10_kingmaker_66 : decode cX10_kingmaker 66 = .ok (.aload_n 0, 1) := by decide +kernel
theorem dX10_kingmaker_67 : decode cX10_kingmaker 67 = .ok (.invokevirtual 393, 3) := by decide +kernel
theorem dX10_kingmaker_70 : decode cX10_kingmaker 70 = .ok (.invokevirtual 390, 3) := by decide +kernel
theorem dX10_kingmaker_73 : decode cX10_kingmaker 73 = .ok (.if_icmp .le 5, 3) := by decide +kernel
theorem dX10_kingmaker_76 : decode cX10_kingmaker 76 = .ok (.iload_n 1, 1) := by decide +kernel
theorem dX10_kingmaker_77 : decode cX10_kingmaker 77 = .ok (.ireturn, 1) := by decide +kernel
theorem dX10_kingmaker_78 : decode cX10_kingmaker 78 = .ok (.iinc 2 1, 3) := by decide +kernel
theorem dX10_kingmaker_81 : decode cX10_kingmaker 81 = .ok (.goto (-56), 3) := by decide +kernel
theorem dX10_kingmaker_84 : decode cX10_kingmaker 84 = .ok (.iinc 1 1, 3) := by decide +kernel
theorem dX10_kingmaker_87 : decode cX10_kingmaker 87 = .ok (.goto (-75), 3) := by decide +kernel
theorem dX10_kingmaker_90 : decode cX10_kingmaker 90 = .ok (.iconst (-1), 1) := by decide +kernel
theorem dX10_kingmaker_91 : decode cX10_kingmaker 91 = .ok (.ireturn, 1) := by decide +kernel
theorem dX10_gainsBy_0 : decode cX10_gainsBy 0 = .ok (.aload_n 0, 1) := by decide +kernel
theorem dX10_gainsBy_1 : decode cX10_gainsBy 1 = .ok (.iload_n 3, 1) := by decide +kernel
theorem dX10_gainsBy_2 : decode cX10_gainsBy 2 = .ok (.iload_n 1, 1) := by decide +kernel
theorem dX10_gainsBy_3 : decode cX10_gainsBy 3 = .ok (.ishl, 1) := by decide +kernel
theorem dX10_gainsBy_4 : decode cX10_gainsBy 4 = .ok (.iload 4, 2) := by decide +kernel
theorem dX10_gainsBy_6 : decode cX10_gainsBy 6 = .ok (.iload_n 2, 1) := by decide +kernel
theorem dX10_gainsBy_7 : decode cX10_gainsBy 7 = .ok (.ishl, 1) := by decide +kernel
theorem dX10_gainsBy_8 : decode cX10_gainsBy 8 = .ok (.ior, 1) := by decide +kernel
theorem dX10_gainsBy_9 : decode cX10_gainsBy 9 = .ok (.putfield 249, 3) := by decide +kernel
theorem dX10_gainsBy_12 : decode cX10_gainsBy 12 = .ok (.aload_n 0, 1) := by decide +kernel
theorem dX10_gainsBy_13 : decode cX10_gainsBy 13 = .ok (.invokevirtual 276, 3) := by decide +kernel
theorem dX10_gainsBy_16 : decode cX10_gainsBy 16 = .ok (.iload 5, 2) := by decide +kernel
theorem dX10_gainsBy_18 : decode cX10_gainsBy 18 = .ok (.ifCond .ne 7, 3) := by decide +kernel
theorem dX10_gainsBy_21 : decode cX10_gainsBy 21 = .ok (.iload_n 1, 1) := by decide +kernel
theorem dX10_gainsBy_22 : decode cX10_gainsBy 22 = .ok (.goto 4, 3) := by decide +kernel
theorem dX10_gainsBy_25 : decode cX10_gainsBy 25 = .ok (.iload_n 2, 1) := by decide +kernel
theorem dX10_gainsBy_26 : decode cX10_gainsBy 26 = .ok (.istore 6, 2) := by decide +kernel
theorem dX10_gainsBy_28 : decode cX10_gainsBy 28 = .ok (.iconst 2, 1) := by decide +kernel
theorem dX10_gainsBy_29 : decode cX10_gainsBy 29 = .ok (.aload_n 0, 1) := by decide +kernel
theorem dX10_gainsBy_30 : decode cX10_gainsBy 30 = .ok (.iload 6, 2) := by decide +kernel
theorem dX10_gainsBy_32 : decode cX10_gainsBy 32 = .ok (.invokevirtual 313, 3) := by decide +kernel
theorem dX10_gainsBy_35 : decode cX10_gainsBy 35 = .ok (.invokestatic 319, 3) := by decide +kernel
theorem dX10_gainsBy_38 : decode cX10_gainsBy 38 = .ok (.imul, 1) := by decide +kernel
theorem dX10_gainsBy_39 : decode cX10_gainsBy 39 = .ok (.aload_n 0, 1) := by decide +kernel
theorem dX10_gainsBy_40 : decode cX10_gainsBy 40 = .ok (.iload 6, 2) := by decide +kernel
theorem dX10_gainsBy_42 : decode cX10_gainsBy 42 = .ok (.invokevirtual 300, 3) := by decide +kernel
theorem dX10_gainsBy_45 : decode cX10_gainsBy 45 = .ok (.isub, 1) := by decide +kernel
theorem dX10_gainsBy_46 : decode cX10_gainsBy 46 = .ok (.istore 7, 2) := by decide +kernel
theorem dX10_gainsBy_48 : decode cX10_gainsBy 48 = .ok (.aload_n 0, 1) := by decide +kernel
theorem dX10_gainsBy_49 : decode cX10_gainsBy 49 = .ok (.iconst 0, 1) := by decide +kernel
theorem dX10_gainsBy_50 : decode cX10_gainsBy 50 = .ok (.putfield 249, 3) := by decide +kernel
theorem dX10_gainsBy_53 : decode cX10_gainsBy 53 = .ok (.iload 7, 2) := by decide +kernel
theorem dX10_gainsBy_55 : decode cX10_gainsBy 55 = .ok (.ireturn, 1) := by decide +kernel
theorem dX10_areTwo_0 : decode cX10_areTwo 0 = .ok (.aload_n 0, 1) := by decide +kernel
theorem dX10_areTwo_1 : decode cX10_areTwo 1 = .ok (.iload_n 1, 1) := by decide +kernel
theorem dX10_areTwo_2 : decode cX10_areTwo 2 = .ok (.invokevirtual 288, 3) := by decide +kernel
theorem dX10_areTwo_5 : decode cX10_areTwo 5 = .ok (.ifCond .eq 21, 3) := by decide +kernel
theorem dX10_areTwo_8 : decode cX10_areTwo 8 = .ok (.aload_n 0, 1) := by decide +kernel
theorem dX10_areTwo_9 : decode cX10_areTwo 9 = .ok (.iload_n 2, 1) := by decide +kernel
theorem dX10_areTwo_10 : decode cX10_areTwo 10 = .ok (.i2l, 1) := by decide +kernel
theorem dX10_areTwo_11 : decode cX10_areTwo 11 = .ok (.invokevirtual 222, 3) := by decide +kernel
theorem dX10_areTwo_14 : decode cX10_areTwo 14 = .ok (.ifCond .eq 12, 3) := by decide +kernel
theorem dX10_areTwo_17 : decode cX10_areTwo 17 = .ok (.iload_n 1, 1) := by decide +kernel
theorem dX10_areTwo_18 : decode cX10_areTwo 18 = .ok (.iload_n 2, 1) := by decide +kernel
theorem dX10_areTwo_19 : decode cX10_areTwo 19 = .ok (.if_icmp .eq 7, 3) := by decide +kernel
theorem dX10_areTwo_22 : decode cX10_areTwo 22 = .ok (.iconst 1, 1) := by decide +kernel
theorem dX10_areTwo_23 : decode cX10_areTwo 23 = .ok (.goto 4, 3) := by decide +kernel
theorem dX10_areTwo_26 : decode cX10_areTwo 26 = .ok (.iconst 0, 1) := by decide +kernel
theorem dX10_areTwo_27 : decode cX10_areTwo 27 = .ok (.ireturn, 1) := by decide +kernel
theorem dX10_rests_0 : decode cX10_rests 0 = .ok (.aload_n 0, 1) := by decide +kernel
theorem dX10_rests_1 : decode cX10_rests 1 = .ok (.iload_n 1, 1) := by decide +kernel
theorem dX10_rests_2 : decode cX10_rests 2 = .ok (.iload_n 2, 1) := by decide +kernel
theorem dX10_rests_3 : decode cX10_rests 3 = .ok (.invokevirtual 416, 3) := by decide +kernel
theorem dX10_rests_6 : decode cX10_rests 6 = .ok (.ifCond .ne 6, 3) := by decide +kernel
theorem dX10_rests_9 : decode cX10_rests 9 = .ok (.bipush (-2), 2) := by decide +kernel
theorem dX10_rests_11 : decode cX10_rests 11 = .ok (.ireturn, 1) := by decide +kernel
theorem dX10_rests_12 : decode cX10_rests 12 = .ok (.iconst 0, 1) := by decide +kernel
theorem dX10_rests_13 : decode cX10_rests 13 = .ok (.istore_n 3, 1) := by decide +kernel
theorem dX10_rests_14 : decode cX10_rests 14 = .ok (.iconst 0, 1) := by decide +kernel
theorem dX10_rests_15 : decode cX10_rests 15 = .ok (.istore 4, 2) := by decide +kernel
theorem dX10_rests_17 : decode cX10_rests 17 = .ok (.iload 4, 2) := by decide +kernel
theorem dX10_rests_19 : decode cX10_rests 19 = .ok (.iconst 4, 1) := by decide +kernel
theorem dX10_rests_20 : decode cX10_rests 20 = .ok (.if_icmp .ge 98, 3) := by decide +kernel
theorem dX10_rests_23 : decode cX10_rests 23 = .ok (.iload 4, 2) := by decide +kernel
theorem dX10_rests_25 : decode cX10_rests 25 = .ok (.iconst 1, 1) := by decide +kernel
theorem dX10_rests_26 : decode cX10_rests 26 = .ok (.iand, 1) := by decide +kernel
theorem dX10_rests_27 : decode cX10_rests 27 = .ok (.istore 5, 2) := by decide +kernel
theorem dX10_rests_29 : decode cX10_rests 29 = .ok (.iload 4, 2) := by decide +kernel
theorem dX10_rests_31 : decode cX10_rests 31 = .ok (.iconst 1, 1) := by decide +kernel
theorem dX10_rests_32 : decode cX10_rests 32 = .ok (.ishr, 1) := by decide +kernel
theorem dX10_rests_33 : decode cX10_rests 33 = .ok (.istore 6, 2) := by decide +kernel
theorem dX10_rests_35 : decode cX10_rests 35 = .ok (.aload_n 0, 1) := by decide +kernel
theorem dX10_rests_36 : decode cX10_rests 36 = .ok (.iload_n 1, 1) := by decide +kernel
theorem dX10_rests_37 : decode cX10_rests 37 = .ok (.iload_n 2, 1) := by decide +kernel
theorem dX10_rests_38 : decode cX10_rests 38 = .ok (.iload 5, 2) := by decide +kernel
theorem dX10_rests_40 : decode cX10_rests 40 = .ok (.iload 6, 2) := by decide +kernel
theorem dX10_rests_42 : decode cX10_rests 42 = .ok (.iconst 0, 1) := by decide +kernel
theorem dX10_rests_43 : decode cX10_rests 43 = .ok (.invokevirtual 419, 3) := by decide +kernel
theorem dX10_rests_46 : decode cX10_rests 46 = .ok (.aload_n 0, 1) := by decide +kernel
theorem dX10_rests_47 : decode cX10_rests 47 = .ok (.iload_n 1, 1) := by decide +kernel
theorem dX10_rests_48 : decode cX10_rests 48 = .ok (.iload_n 2, 1) := by decide +kernel
theorem dX10_rests_49 : decode cX10_rests 49 = .ok (.iconst 1, 1) := by decide +kernel
theorem dX10_rests_50 : decode cX10_rests 50 = .ok (.iload 5, 2) := by decide +kernel
theorem dX10_rests_52 : decode cX10_rests 52 = .ok (.isub, 1) := by decide +kernel
theorem dX10_rests_53 : decode cX10_rests 53 = .ok (.iload 6, 2) := by decide +kernel
theorem dX10_rests_55 : decode cX10_rests 55 = .ok (.iconst 0, 1) := by decide +kernel
theorem dX10_rests_56 : decode cX10_rests 56 = .ok (.invokevirtual 419, 3) := by decide +kernel
theorem dX10_rests_59 : decode cX10_rests 59 = .ok (.if_icmp .lt 34, 3) := by decide +kernel
theorem dX10_rests_62 : decode cX10_rests 62 = .ok (.aload_n 0, 1) := by decide +kernel
theorem dX10_rests_63 : decode cX10_rests 63 = .ok (.iload_n 1, 1) := by decide +kernel
theorem dX10_rests_64 : decode cX10_rests 64 = .ok (.iload_n 2, 1) := by decide +kernel
theorem dX10_rests_65 : decode cX10_rests 65 = .ok (.iload 5, 2) := by decide +kernel
theorem dX10_rests_67 : decode cX10_rests 67 = .ok (.iload 6, 2) := by decide +kernel
theorem dX10_rests_69 : decode cX10_rests 69 = .ok (.iconst 1, 1) := by decide +kernel
theorem dX10_rests_70 : decode cX10_rests 70 = .ok (.invokevirtual 419, 3) := by decide +kernel
theorem dX10_rests_73 : decode cX10_rests 73 = .ok (.aload_n 0, 1) := by decide +kernel
theorem dX10_rests_74 : decode cX10_rests 74 = .ok (.iload_n 1, 1) := by decide +kernel
theorem dX10_rests_75 : decode cX10_rests 75 = .ok (.iload_n 2, 1) := by decide +kernel
theorem dX10_rests_76 : decode cX10_rests 76 = .ok (.iload 5, 2) := by decide +kernel
theorem dX10_rests_78 : decode cX10_rests 78 = .ok (.iconst 1, 1) := by decide +kernel
theorem dX10_rests_79 : decode cX10_rests 79 = .ok (.iload 6, 2) := by decide +kernel
theorem dX10_rests_81 : decode cX10_rests 81 = .ok (.isub, 1) := by decide +kernel
theorem dX10_rests_82 : decode cX10_rests 82 = .ok (.iconst 1, 1) := by decide +kernel
theorem dX10_rests_83 : decode cX10_rests 83 = .ok (.invokevirtual 419, 3) := by decide +kernel
theorem dX10_rests_86 : decode cX10_rests 86 = .ok (.if_icmp .lt 7, 3) := by decide +kernel
theorem dX10_rests_89 : decode cX10_rests 89 = .ok (.iconst 1, 1) := by decide +kernel
theorem dX10_rests_90 : decode cX10_rests 90 = .ok (.goto 4, 3) := by decide +kernel
theorem dX10_rests_93 : decode cX10_rests 93 = .ok (.iconst 0, 1) := by decide +kernel
theorem dX10_rests_94 : decode cX10_rests 94 = .ok (.istore 7, 2) := by decide +kernel
theorem dX10_rests_96 : decode cX10_rests 96 = .ok (.iload_n 3, 1) := by decide +kernel
theorem dX10_rests_97 : decode cX10_rests 97 = .ok (.iload 7, 2) := by decide +kernel
theorem dX10_rests_99 : decode cX10_rests 99 = .ok (.ifCond .eq 10, 3) := by decide +kernel
theorem dX10_rests_102 : decode cX10_rests 102 = .ok (.iconst 1, 1) := by decide +kernel
theorem dX10_rests_103 : decode cX10_rests 103 = .ok (.iload 4, 2) := by decide +kernel
theorem dX10_rests_105 : decode cX10_rests 105 = .ok (.ishl, 1) := by decide +kernel
theorem dX10_rests_106 : decode cX10_rests 106 = .ok (.goto 4, 3) := by decide +kernel
theorem dX10_rests_109 : decode cX10_rests 109 = .ok (.iconst 0, 1) := by decide +kernel
theorem dX10_rests_110 : decode cX10_rests 110 = .ok (.ior, 1) := by decide +kernel
theorem dX10_rests_111 : decode cX10_rests 111 = .ok (.istore_n 3, 1) := by decide +kernel
theorem dX10_rests_112 : decode cX10_rests 112 = .ok (.iinc 4 1, 3) := by decide +kernel
theorem dX10_rests_115 : decode cX10_rests 115 = .ok (.goto (-98), 3) := by decide +kernel
theorem dX10_rests_118 : decode cX10_rests 118 = .ok (.iload_n 3, 1) := by decide +kernel
theorem dX10_rests_119 : decode cX10_rests 119 = .ok (.ireturn, 1) := by decide +kernel
theorem dX10_gains_0 : decode cX10_gains 0 = .ok (.aload_n 0, 1) := by decide +kernel
theorem dX10_gains_1 : decode cX10_gains 1 = .ok (.iload_n 1, 1) := by decide +kernel
theorem dX10_gains_2 : decode cX10_gains 2 = .ok (.iload_n 2, 1) := by decide +kernel
theorem dX10_gains_3 : decode cX10_gains 3 = .ok (.invokevirtual 416, 3) := by decide +kernel
theorem dX10_gains_6 : decode cX10_gains 6 = .ok (.ifCond .eq 37, 3) := by decide +kernel
theorem dX10_gains_9 : decode cX10_gains 9 = .ok (.iload_n 3, 1) := by decide +kernel
theorem dX10_gains_10 : decode cX10_gains 10 = .ok (.i2l, 1) := by decide +kernel
theorem dX10_gains_11 : decode cX10_gains 11 = .ok (.lconst 0, 1) := by decide +kernel
theorem dX10_gains_12 : decode cX10_gains 12 = .ok (.lconst 1, 1) := by decide +kernel
theorem dX10_gains_13 : decode cX10_gains 13 = .ok (.invokestatic 82, 3) := by decide +kernel
theorem dX10_gains_16 : decode cX10_gains 16 = .ok (.ifCond .eq 27, 3) := by decide +kernel
theorem dX10_gains_19 : decode cX10_gains 19 = .ok (.iload 4, 2) := by decide +kernel
theorem dX10_gains_21 : decode cX10_gains 21 = .ok (.i2l, 1) := by decide +kernel
theorem dX10_gains_22 : decode cX10_gains 22 = .ok (.lconst 0, 1) := by decide +kernel
theorem dX10_gains_23 : decode cX10_gains 23 = .ok (.lconst 1, 1) := by decide +kernel
theorem dX10_gains_24 : decode cX10_gains 24 = .ok (.invokestatic 82, 3) := by decide +kernel
theorem dX10_gains_27 : decode cX10_gains 27 = .ok (.ifCond .eq 16, 3) := by decide +kernel
theorem dX10_gains_30 : decode cX10_gains 30 = .ok (.aload_n 0, 1) := by decide +kernel
theorem dX10_gains_31 : decode cX10_gains 31 = .ok (.iload_n 1, 1) := by decide +kernel
theorem dX10_gains_32 : decode cX10_gains 32 = .ok (.iload_n 2, 1) := by decide +kernel
theorem dX10_gains_33 : decode cX10_gains 33 = .ok (.iload_n 3, 1) := by decide +kernel
theorem dX10_gains_34 : decode cX10_gains 34 = .ok (.iload 4, 2) := by decide +kernel
theorem dX10_gains_36 : decode cX10_gains 36 = .ok (.iconst 0, 1) := by decide +kernel
theorem dX10_gains_37 : decode cX10_gains 37 = .ok (.invokevirtual 419, 3) := by decide +kernel
theorem dX10_gains_40 : decode cX10_gains 40 = .ok (.goto 6, 3) := by decide +kernel
theorem dX10_gains_43 : decode cX10_gains 43 = .ok (.sipush (-1000), 3) := by decide +kernel
theorem dX10_gains_46 : decode cX10_gains 46 = .ok (.ireturn, 1) := by decide +kernel
theorem dX10_layMusic_0 : decode cX10_layMusic 0 = .ok (.aload_n 0, 1) := by decide +kernel
theorem dX10_layMusic_1 : decode cX10_layMusic 1 = .ok (.lconst 0, 1) := by decide +kernel
theorem dX10_layMusic_2 : decode cX10_layMusic 2 = .ok (.putfield 423, 3) := by decide +kernel
theorem dX10_layMusic_5 : decode cX10_layMusic 5 = .ok (.aload_n 0, 1) := by decide +kernel
theorem dX10_layMusic_6 : decode cX10_layMusic 6 = .ok (.lconst 0, 1) := by decide +kernel
theorem dX10_layMusic_7 : decode cX10_layMusic 7 = .ok (.putfield 427, 3) := by decide +kernel
theorem dX10_layMusic_10 : decode cX10_layMusic 10 = .ok (.aload_n 0, 1) := by decide +kernel
theorem dX10_layMusic_11 : decode cX10_layMusic 11 = .ok (.lconst 0, 1) := by decide +kernel
theorem dX10_layMusic_12 : decode cX10_layMusic 12 = .ok (.putfield 430, 3) := by decide +kernel
theorem dX10_layMusic_15 : decode cX10_layMusic 15 = .ok (.aload_n 0, 1) := by decide +kernel
theorem dX10_layMusic_16 : decode cX10_layMusic 16 = .ok (.iconst 0, 1) := by decide +kernel
theorem dX10_layMusic_17 : decode cX10_layMusic 17 = .ok (.putfield 270, 3) := by decide +kernel
theorem dX10_layMusic_20 : decode cX10_layMusic 20 = .ok (.aload_n 0, 1) := by decide +kernel
theorem dX10_layMusic_21 : decode cX10_layMusic 21 = .ok (.getfield 270, 3) := by decide +kernel
theorem dX10_layMusic_24 : decode cX10_layMusic 24 = .ok (.iconst 2, 1) := by decide +kernel
theorem dX10_layMusic_25 : decode cX10_layMusic 25 = .ok (.iload_n 3, 1) := by decide +kernel
theorem dX10_layMusic_26 : decode cX10_layMusic 26 = .ok (.ishl, 1) := by decide +kernel
theorem dX10_layMusic_27 : decode cX10_layMusic 27 = .ok (.if_icmp .ge 138, 3) := by decide +kernel
theorem dX10_layMusic_30 : decode cX10_layMusic 30 = .ok (.lconst 1, 1) := by decide +kernel
theorem dX10_layMusic_31 : decode cX10_layMusic 31 = .ok (.lstore 4, 2) := by decide +kernel
theorem dX10_layMusic_33 : decode cX10_layMusic 33 = .ok (.iconst 0, 1) := by decide +kernel
theorem dX10_layMusic_34 : decode cX10_layMusic 34 = .ok (.istore 6, 2) := by decide +kernel
theorem dX10_layMusic_36 : decode cX10_layMusic 36 = .ok (.iload 6, 2) := by decide +kernel
theorem dX10_layMusic_38 : decode cX10_layMusic 38 = .ok (.iload_n 3, 1) := by decide +kernel
theorem dX10_layMusic_39 : decode cX10_layMusic 39 = .ok (.if_icmp .gt 47, 3) := by decide +kernel
theorem dX10_layMusic_42 : decode cX10_layMusic 42 = .ok (.lload 4, 2) := by decide +kernel
theorem dX10_layMusic_44 : decode cX10_layMusic 44 = .ok (.aload_n 0, 1) := by decide +kernel
theorem dX10_layMusic_45 : decode cX10_layMusic 45 = .ok (.getfield 270, 3) := by decide +kernel
theorem dX10_layMusic_48 : decode cX10_layMusic 48 = .ok (.iload 6, 2) := by decide +kernel
theorem dX10_layMusic_50 : decode cX10_layMusic 50 = .ok (.invokestatic 252, 3) := by decide +kernel
theorem dX10_layMusic_53 : decode cX10_layMusic 53 = .ok (.iconst 1, 1) := by decide +kernel
theorem dX10_layMusic_54 : decode cX10_layMusic 54 = .ok (.if_icmp .ne 13, 3) := by decide +kernel
theorem dX10_layMusic_57 : decode cX10_layMusic 57 = .ok (.aload_n 0, 1) := by decide +kernel
theorem dX10_layMusic_58 : decode cX10_layMusic 58 = .ok (.getfield 9, 3) := by decide +kernel
theorem dX10_layMusic_61 : decode cX10_layMusic 61 = .ok (.iconst 3, 1) := by decide +kernel
theorem dX10_layMusic_62 : decode cX10_layMusic 62 = .ok (.iaload, 1) := by decide +kernel
theorem dX10_layMusic_63 : decode cX10_layMusic 63 = .ok (.i2l, 1) := by decide +kernel
theorem dX10_layMusic_64 : decode cX10_layMusic 64 = .ok (.goto 13, 3) := by decide +kernel
theorem dX10_layMusic_67 : decode cX10_layMusic 67 = .ok (.bipush 10, 2) := by decide +kernel
theorem dX10_layMusic_69 : decode cX10_layMusic 69 = .ok (.aload_n 0, 1) := by decide +kernel
theorem dX10_layMusic_70 : decode cX10_layMusic 70 = .ok (.getfield 9, 3) := by decide +kernel
theorem dX10_layMusic_73 : decode cX10_layMusic 73 = .ok (.iconst 3, 1) := by decide +kernel
theorem dX10_layMusic_74 : decode cX10_layMusic 74 = .ok (.iaload, 1) := by decide +kernel
theorem dX10_layMusic_75 : decode cX10_layMusic 75 = .ok (.isub, 1) := by decide +kernel
theorem dX10_layMusic_76 : decode cX10_layMusic 76 = .ok (.i2l, 1) := by decide +kernel
theorem dX10_layMusic_77 : decode cX10_layMusic 77 = .ok (.lmul, 1) := by decide +kernel
theorem dX10_layMusic_78 : decode cX10_layMusic 78 = .ok (.lstore 4, 2) := by decide +kernel
theorem dX10_layMusic_80 : decode cX10_layMusic 80 = .ok (.iinc 6 1, 3) := by decide +kernel
theorem dX10_layMusic_83 : decode cX10_layMusic 83 = .ok (.goto (-47), 3) := by decide +kernel
theorem dX10_layMusic_86 : decode cX10_layMusic 86 = .ok (.lload 4, 2) := by decide +kernel
theorem dX10_layMusic_88 : decode cX10_layMusic 88 = .ok (.lconst 0, 1) := by decide +kernel
theorem dX10_layMusic_89 : decode cX10_layMusic 89 = .ok (.lcmp, 1) := by decide +kernel
theorem dX10_layMusic_90 : decode cX10_layMusic 90 = .ok (.ifCond .ne 6, 3) := by decide +kernel
theorem dX10_layMusic_93 : decode cX10_layMusic 93 = .ok (.goto 59, 3) := by decide +kernel
theorem dX10_layMusic_96 : decode cX10_layMusic 96 = .ok (.aload_n 0, 1) := by decide +kernel
theorem dX10_layMusic_97 : decode cX10_layMusic 97 = .ok (.iload_n 1, 1) := by decide +kernel
theorem dX10_layMusic_98 : decode cX10_layMusic 98 = .ok (.iload_n 3, 1) := by decide +kernel
theorem dX10_layMusic_99 : decode cX10_layMusic 99 = .ok (.invokevirtual 335, 3) := by decide +kernel
theorem dX10_layMusic_102 : decode cX10_layMusic 102 = .ok (.istore 6, 2) := by decide +kernel
theorem dX10_layMusic_104 : decode cX10_layMusic 104 = .ok (.aload_n 0, 1) := by decide +kernel
theorem dX10_layMusic_105 : decode cX10_layMusic 105 = .ok (.dup, 1) := by decide +kernel
theorem dX10_layMusic_106 : decode cX10_layMusic 106 = .ok (.getfield 423, 3) := by decide +kernel
theorem dX10_layMusic_109 : decode cX10_layMusic 109 = .ok (.lload 4, 2) := by decide +kernel
theorem dX10_layMusic_111 : decode cX10_layMusic 111 = .ok (.ladd, 1) := by decide +kernel
theorem dX10_layMusic_112 : decode cX10_layMusic 112 = .ok (.putfield 423, 3) := by decide +kernel
theorem dX10_layMusic_115 : decode cX10_layMusic 115 = .ok (.aload_n 0, 1) := by decide +kernel
theorem dX10_layMusic_116 : decode cX10_layMusic 116 = .ok (.dup, 1) := by decide +kernel
theorem dX10_layMusic_117 : decode cX10_layMusic 117 = .ok (.getfield 427, 3) := by decide +kernel
theorem dX10_layMusic_120 : decode cX10_layMusic 120 = .ok (.lload 4, 2) := by decide +kernel
theorem dX10_layMusic_122 : decode cX10_layMusic 122 = .ok (.iload 6, 2) := by decide +kernel
theorem dX10_layMusic_124 : decode cX10_layMusic 124 = .ok (.iload_n 2, 1) := by decide +kernel
theorem dX10_layMusic_125 : decode cX10_layMusic 125 = .ok (.invokestatic 252, 3) := by decide +kernel
theorem dX10_layMusic_128 : decode cX10_layMusic 128 = .ok (.i2l, 1) := by decide +kernel
theorem dX10_layMusic_129 : decode cX10_layMusic 129 = .ok (.lmul, 1) := by decide +kernel
theorem dX10_layMusic_130 : decode cX10_layMusic 130 = .ok (.ladd, 1) := by decide +kernel
theorem dX10_layMusic_131 : decode cX10_layMusic 131 = .ok (.putfield 427, 3) := by decide +kernel
theorem dX10_layMusic_134 : decode cX10_layMusic 134 = .ok (.aload_n 0, 1) := by decide +kernel
theorem dX10_layMusic_135 : decode cX10_layMusic 135 = .ok (.dup, 1) := by decide +kernel
theorem dX10_layMusic_136 : decode cX10_layMusic 136 = .ok (.getfield 430, 3) := by decide +kernel
theorem dX10_layMusic_139 : decode cX10_layMusic 139 = .ok (.lload 4, 2) := by decide +kernel
theorem dX10_layMusic_141 : decode cX10_layMusic 141 = .ok (.iload 6, 2) := by decide +kernel
theorem dX10_layMusic_143 : decode cX10_layMusic 143 = .ok (.invokestatic 319, 3) := by decide +kernel
theorem dX10_layMusic_146 : decode cX10_layMusic 146 = .ok (.i2l, 1) := by decide +kernel
theorem dX10_layMusic_147 : decode cX10_layMusic 147 = .ok (.lmul, 1) := by decide +kernel
theorem dX10_layMusic_148 : decode cX10_layMusic 148 = .ok (.ladd, 1) := by decide +kernel
theorem dX10_layMusic_149 : decode cX10_layMusic 149 = .ok (.putfield 430, 3) := by decide +kernel
theorem dX10_layMusic_152 : decode cX10_layMusic 152 = .ok (.aload_n 0, 1) := by decide +kernel
theorem dX10_layMusic_153 : decode cX10_layMusic 153 = .ok (.dup, 1) := by decide +kernel
theorem dX10_layMusic_154 : decode cX10_layMusic 154 = .ok (.getfield 270, 3) := by decide +kernel
theorem dX10_layMusic_157 : decode cX10_layMusic 157 = .ok (.iconst 1, 1) := by decide +kernel
theorem dX10_layMusic_158 : decode cX10_layMusic 158 = .ok (.iadd, 1) := by decide +kernel
theorem dX10_layMusic_159 : decode cX10_layMusic 159 = .ok (.putfield 270, 3) := by decide +kernel
theorem dX10_layMusic_162 : decode cX10_layMusic 162 = .ok (.goto (-142), 3) := by decide +kernel
theorem dX10_layMusic_165 : decode cX10_layMusic 165 = .ok (.return_, 1) := by decide +kernel
theorem dX10_asksMusic_0 : decode cX10_asksMusic 0 = .ok (.aload_n 0, 1) := by decide +kernel
theorem dX10_asksMusic_1 : decode cX10_asksMusic 1 = .ok (.iload_n 1, 1) := by decide +kernel
theorem dX10_asksMusic_2 : decode cX10_asksMusic 2 = .ok (.invokevirtual 288, 3) := by decide +kernel
theorem dX10_asksMusic_5 : decode cX10_asksMusic 5 = .ok (.ifCond .eq 38, 3) := by decide +kernel
theorem dX10_asksMusic_8 : decode cX10_asksMusic 8 = .ok (.aload_n 0, 1) := by decide +kernel
theorem dX10_asksMusic_9 : decode cX10_asksMusic 9 = .ok (.iload_n 2, 1) := by decide +kernel
theorem dX10_asksMusic_10 : decode cX10_asksMusic 10 = .ok (.i2l, 1) := by decide +kernel
theorem dX10_asksMusic_11 : decode cX10_asksMusic 11 = .ok (.invokevirtual 282, 3) := by decide +kernel
theorem dX10_asksMusic_14 : decode cX10_asksMusic 14 = .ok (.ifCond .eq 29, 3) := by decide +kernel
theorem dX10_asksMusic_17 : decode cX10_asksMusic 17 = .ok (.iload_n 2, 1) := by decide +kernel
theorem dX10_asksMusic_18 : decode cX10_asksMusic 18 = .ok (.i2l, 1) := by decide +kernel
theorem dX10_asksMusic_19 : decode cX10_asksMusic 19 = .ok (.lconst 0, 1) := by decide +kernel
theorem dX10_asksMusic_20 : decode cX10_asksMusic 20 = .ok (.ldc2_w 433, 3) := by decide +kernel
theorem dX10_asksMusic_23 : decode cX10_asksMusic 23 = .ok (.invokestatic 82, 3) := by decide +kernel
theorem dX10_asksMusic_26 : decode cX10_asksMusic 26 = .ok (.ifCond .eq 17, 3) := by decide +kernel
theorem dX10_asksMusic_29 : decode cX10_asksMusic 29 = .ok (.iload_n 3, 1) := by decide +kernel
theorem dX10_asksMusic_30 : decode cX10_asksMusic 30 = .ok (.i2l, 1) := by decide +kernel
theorem dX10_asksMusic_31 : decode cX10_asksMusic 31 = .ok (.lconst 0, 1) := by decide +kernel
theorem dX10_asksMusic_32 : decode cX10_asksMusic 32 = .ok (.lconst 1, 1) := by decide +kernel
theorem dX10_asksMusic_33 : decode cX10_asksMusic 33 = .ok (.invokestatic 82, 3) := by decide +kernel
theorem dX10_asksMusic_36 : decode cX10_asksMusic 36 = .ok (.ifCond .eq 7, 3) := by decide +kernel
theorem dX10_asksMusic_39 : decode cX10_asksMusic 39 = .ok (.iconst 1, 1) := by decide +kernel
theorem dX10_asksMusic_40 : decode cX10_asksMusic 40 = .ok (.goto 4, 3) := by decide +kernel
theorem dX10_asksMusic_43 : decode cX10_asksMusic 43 = .ok (.iconst 0, 1) := by decide +kernel
theorem dX10_asksMusic_44 : decode cX10_asksMusic 44 = .ok (.ireturn, 1) := by decide +kernel
theorem dX10_chance_0 : decode cX10_chance 0 = .ok (.aload_n 0, 1) := by decide +kernel
theorem dX10_chance_1 : decode cX10_chance 1 = .ok (.iload_n 1, 1) := by decide +kernel
theorem dX10_chance_2 : decode cX10_chance 2 = .ok (.iload_n 3, 1) := by decide +kernel
theorem dX10_chance_3 : decode cX10_chance 3 = .ok (.iload 4, 2) := by decide +kernel
theorem dX10_chance_5 : decode cX10_chance 5 = .ok (.invokevirtual 435, 3) := by decide +kernel
theorem dX10_chance_8 : decode cX10_chance 8 = .ok (.ifCond .eq 12, 3) := by decide +kernel
theorem dX10_chance_11 : decode cX10_chance 11 = .ok (.aload_n 0, 1) := by decide +kernel
theorem dX10_chance_12 : decode cX10_chance 12 = .ok (.iload_n 2, 1) := by decide +kernel
theorem dX10_chance_13 : decode cX10_chance 13 = .ok (.i2l, 1) := by decide +kernel
theorem dX10_chance_14 : decode cX10_chance 14 = .ok (.invokevirtual 222, 3) := by decide +kernel
theorem dX10_chance_17 : decode cX10_chance 17 = .ok (.ifCond .ne 7, 3) := by decide +kernel
theorem dX10_chance_20 : decode cX10_chance 20 = .ok (.ldc2_w 438, 3) := by decide +kernel
theorem dX10_chance_23 : decode cX10_chance 23 = .ok (.lreturn, 1) := by decide +kernel
theorem dX10_chance_24 : decode cX10_chance 24 = .ok (.aload_n 0, 1) := by decide +kernel
theorem dX10_chance_25 : decode cX10_chance 25 = .ok (.iload_n 1, 1) := by decide +kernel
theorem dX10_chance_26 : decode cX10_chance 26 = .ok (.iload_n 2, 1) := by decide +kernel
theorem dX10_chance_27 : decode cX10_chance 27 = .ok (.iload_n 3, 1) := by decide +kernel
theorem dX10_chance_28 : decode cX10_chance 28 = .ok (.invokevirtual 440, 3) := by decide +kernel
theorem dX10_chance_31 : decode cX10_chance 31 = .ok (.aload_n 0, 1) := by decide +kernel
theorem dX10_chance_32 : decode cX10_chance 32 = .ok (.getfield 427, 3) := by decide +kernel
theorem dX10_chance_35 : decode cX10_chance 35 = .ok (.aload_n 0, 1) := by decide +kernel
theorem dX10_chance_36 : decode cX10_chance 36 = .ok (.getfield 423, 3) := by decide +kernel
theorem dX10_chance_39 : decode cX10_chance 39 = .ok (.iload 4, 2) := by decide +kernel
theorem dX10_chance_41 : decode cX10_chance 41 = .ok (.invokestatic 409, 3) := by decide +kernel
theorem dX10_chance_44 : decode cX10_chance 44 = .ok (.lreturn, 1) := by decide +kernel
theorem dX10_mean_0 : decode cX10_mean 0 = .ok (.aload_n 0, 1) := by decide +kernel
theorem dX10_mean_1 : decode cX10_mean 1 = .ok (.iload_n 1, 1) := by decide +kernel
theorem dX10_mean_2 : decode cX10_mean 2 = .ok (.iload_n 2, 1) := by decide +kernel
theorem dX10_mean_3 : decode cX10_mean 3 = .ok (.iload_n 3, 1) := by decide +kernel
theorem dX10_mean_4 : decode cX10_mean 4 = .ok (.invokevirtual 435, 3) := by decide +kernel
theorem dX10_mean_7 : decode cX10_mean 7 = .ok (.ifCond .ne 7, 3) := by decide +kernel
theorem dX10_mean_10 : decode cX10_mean 10 = .ok (.ldc2_w 438, 3) := by decide +kernel
theorem dX10_mean_13 : decode cX10_mean 13 = .ok (.lreturn, 1) := by decide +kernel
theorem dX10_mean_14 : decode cX10_mean 14 = .ok (.aload_n 0, 1) := by decide +kernel
theorem dX10_mean_15 : decode cX10_mean 15 = .ok (.iload_n 1, 1) := by decide +kernel
theorem dX10_mean_16 : decode cX10_mean 16 = .ok (.iload_n 1, 1) := by decide +kernel
theorem dX10_mean_17 : decode cX10_mean 17 = .ok (.iload_n 2, 1) := by decide +kernel
theorem dX10_mean_18 : decode cX10_mean 18 = .ok (.invokevirtual 440, 3) := by decide +kernel
theorem dX10_mean_21 : decode cX10_mean 21 = .ok (.aload_n 0, 1) := by decide +kernel
theorem dX10_mean_22 : decode cX10_mean 22 = .ok (.getfield 430, 3) := by decide +kernel
theorem dX10_mean_25 : decode cX10_mean 25 = .ok (.aload_n 0, 1) := by decide +kernel
theorem dX10_mean_26 : decode cX10_mean 26 = .ok (.getfield 423, 3) := by decide +kernel
theorem dX10_mean_29 : decode cX10_mean 29 = .ok (.iload_n 3, 1) := by decide +kernel
theorem dX10_mean_30 : decode cX10_mean 30 = .ok (.invokestatic 409, 3) := by decide +kernel
theorem dX10_mean_33 : decode cX10_mean 33 = .ok (.lreturn, 1) := by decide +kernel
theorem dX10_keepAct_0 : decode cX10_keepAct 0 = .ok (.aload_n 0, 1) := by decide +kernel
theorem dX10_keepAct_1 : decode cX10_keepAct 1 = .ok (.getfield 9, 3) := by decide +kernel
theorem dX10_keepAct_4 : decode cX10_keepAct 4 = .ok (.bipush 8, 2) := by decide +kernel
theorem dX10_keepAct_6 : decode cX10_keepAct 6 = .ok (.iaload, 1) := by decide +kernel
theorem dX10_keepAct_7 : decode cX10_keepAct 7 = .ok (.bipush 30, 2) := by decide +kernel
theorem dX10_keepAct_9 : decode cX10_keepAct 9 = .ok (.if_icmp .ne 6, 3) := by decide +kernel
theorem dX10_keepAct_12 : decode cX10_keepAct 12 = .ok (.bipush (-5), 2) := by decide +kernel
theorem dX10_keepAct_14 : decode cX10_keepAct 14 = .ok (.ireturn, 1) := by decide +kernel
theorem dX10_keepAct_15 : decode cX10_keepAct 15 = .ok (.aload_n 0, 1) := by decide +kernel
theorem dX10_keepAct_16 : decode cX10_keepAct 16 = .ok (.getfield 9, 3) := by decide +kernel
theorem dX10_keepAct_19 : decode cX10_keepAct 19 = .ok (.bipush 104, 2) := by decide +kernel
theorem dX10_keepAct_21 : decode cX10_keepAct 21 = .ok (.aload_n 0, 1) := by decide +kernel
theorem dX10_keepAct_22 : decode cX10_keepAct 22 = .ok (.getfield 9, 3) := by decide +kernel
theorem dX10_keepAct_25 : decode cX10_keepAct 25 = .ok (.bipush 8, 2) := by decide +kernel
theorem dX10_keepAct_27 : decode cX10_keepAct 27 = .ok (.iaload, 1) := by decide +kernel
theorem dX10_keepAct_28 : decode cX10_keepAct 28 = .ok (.iadd, 1) := by decide +kernel
theorem dX10_keepAct_29 : decode cX10_keepAct 29 = .ok (.iload_n 1, 1) := by decide +kernel
theorem dX10_keepAct_30 : decode cX10_keepAct 30 = .ok (.iastore, 1) := by decide +kernel
theorem dX10_keepAct_31 : decode cX10_keepAct 31 = .ok (.aload_n 0, 1) := by decide +kernel
theorem dX10_keepAct_32 : decode cX10_keepAct 32 = .ok (.getfield 9, 3) := by decide +kernel
theorem dX10_keepAct_35 : decode cX10_keepAct 35 = .ok (.bipush 8, 2) := by decide +kernel
theorem dX10_keepAct_37 : decode cX10_keepAct 37 = .ok (.dup2, 1) := by decide +kernel
theorem dX10_keepAct_38 : decode cX10_keepAct 38 = .ok (.iaload, 1) := by decide +kernel
theorem dX10_keepAct_39 : decode cX10_keepAct 39 = .ok (.iconst 1, 1) := by decide +kernel
theorem dX10_keepAct_40 : decode cX10_keepAct 40 = .ok (.iadd, 1) := by decide +kernel
theorem dX10_keepAct_41 : decode cX10_keepAct 41 = .ok (.iastore, 1) := by decide +kernel
theorem dX10_keepAct_42 : decode cX10_keepAct 42 = .ok (.iconst 0, 1) := by decide +kernel
theorem dX10_keepAct_43 : decode cX10_keepAct 43 = .ok (.ireturn, 1) := by decide +kernel
theorem dX10_bid_0 : decode cX10_bid 0 = .ok (.aload_n 0, 1) := by decide +kernel
theorem dX10_bid_1 : decode cX10_bid 1 = .ok (.iload_n 1, 1) := by decide +kernel
theorem dX10_bid_2 : decode cX10_bid 2 = .ok (.i2l, 1) := by decide +kernel
theorem dX10_bid_3 : decode cX10_bid 3 = .ok (.invokevirtual 222, 3) := by decide +kernel
theorem dX10_bid_6 : decode cX10_bid 6 = .ok (.ifCond .eq 23, 3) := by decide +kernel
theorem dX10_bid_9 : decode cX10_bid 9 = .ok (.aload_n 0, 1) := by decide +kernel
theorem dX10_bid_10 : decode cX10_bid 10 = .ok (.iload_n 2, 1) := by decide +kernel
theorem dX10_bid_11 : decode cX10_bid 11 = .ok (.invokevirtual 291, 3) := by decide +kernel
theorem dX10_bid_14 : decode cX10_bid 14 = .ok (.ifCond .eq 15, 3) := by decide +kernel
theorem dX10_bid_17 : decode cX10_bid 17 = .ok (.iload_n 3, 1) := by decide +kernel
theorem dX10_bid_18 : decode cX10_bid 18 = .ok (.i2l, 1) := by decide +kernel
theorem dX10_bid_19 : decode cX10_bid 19 = .ok (.lconst 0, 1) := by decide +kernel
theorem dX10_bid_20 : decode cX10_bid 20 = .ok (.ldc2_w 444, 3) := by decide +kernel
theorem dX10_bid_23 : decode cX10_bid 23 = .ok (.invokestatic 82, 3) := by decide +kernel
theorem dX10_bid_26 : decode cX10_bid 26 = .ok (.ifCond .ne 6, 3) := by decide +kernel
theorem dX10_bid_29 : decode cX10_bid 29 = .ok (.bipush (-2), 2) := by decide +kernel
theorem dX10_bid_31 : decode cX10_bid 31 = .ok (.ireturn, 1) := by decide +kernel
theorem dX10_bid_32 : decode cX10_bid 32 = .ok (.aload_n 0, 1) := by decide +kernel
theorem dX10_bid_33 : decode cX10_bid 33 = .ok (.sipush 1000, 3) := by decide +kernel
theorem dX10_bid_36 : decode cX10_bid 36 = .ok (.iload_n 1, 1) := by decide +kernel
theorem dX10_bid_37 : decode cX10_bid 37 = .ok (.imul, 1) := by decide +kernel
theorem dX10_bid_38 : decode cX10_bid 38 = .ok (.bipush 100, 2) := by decide +kernel
theorem dX10_bid_40 : decode cX10_bid 40 = .ok (.iload_n 2, 1) := by decide +kernel
theorem dX10_bid_41 : decode cX10_bid 41 = .ok (.imul, 1) := by decide +kernel
theorem dX10_bid_42 : decode cX10_bid 42 = .ok (.iadd, 1) := by decide +kernel
theorem dX10_bid_43 : decode cX10_bid 43 = .ok (.iload_n 3, 1) := by decide +kernel
theorem dX10_bid_44 : decode cX10_bid 44 = .ok (.iadd, 1) := by decide +kernel
theorem dX10_bid_45 : decode cX10_bid 45 = .ok (.invokevirtual 446, 3) := by decide +kernel
theorem dX10_bid_48 : decode cX10_bid 48 = .ok (.ifCond .ge 6, 3) := by decide +kernel
theorem dX10_bid_51 : decode cX10_bid 51 = .ok (.bipush (-5), 2) := by decide +kernel
theorem dX10_bid_53 : decode cX10_bid 53 = .ok (.ireturn, 1) := by decide +kernel
theorem dX10_bid_54 : decode cX10_bid 54 = .ok (.aload_n 0, 1) := by decide +kernel
theorem dX10_bid_55 : decode cX10_bid 55 = .ok (.invokevirtual 279, 3) := by decide +kernel
theorem dX10_bid_58 : decode cX10_bid 58 = .ok (.aload_n 0, 1) := by decide +kernel
theorem dX10_bid_59 : decode cX10_bid 59 = .ok (.iload_n 1, 1) := by decide +kernel
theorem dX10_bid_60 : decode cX10_bid 60 = .ok (.aload_n 0, 1) := by decide +kernel
theorem dX10_bid_61 : decode cX10_bid 61 = .ok (.invokevirtual 247, 3) := by decide +kernel
theorem dX10_bid_64 : decode cX10_bid 64 = .ok (.invokevirtual 255, 3) := by decide +kernel
theorem dX10_bid_67 : decode cX10_bid 67 = .ok (.ireturn, 1) := by decide +kernel
theorem dX10_move_0 : decode cX10_move 0 = .ok (.aload_n 0, 1) := by decide +kernel
theorem dX10_move_1 : decode cX10_move 1 = .ok (.iload_n 1, 1) := by decide +kernel
theorem dX10_move_2 : decode cX10_move 2 = .ok (.invokevirtual 285, 3) := by decide +kernel
theorem dX10_move_5 : decode cX10_move 5 = .ok (.ifCond .eq 12, 3) := by decide +kernel
theorem dX10_move_8 : decode cX10_move 8 = .ok (.aload_n 0, 1) := by decide +kernel
theorem dX10_move_9 : decode cX10_move 9 = .ok (.iload_n 2, 1) := by decide +kernel
theorem dX10_move_10 : decode cX10_move 10 = .ok (.i2l, 1) := by decide +kernel
theorem dX10_move_11 : decode cX10_move 11 = .ok (.invokevirtual 222, 3) := by decide +kernel
theorem dX10_move_14 : decode cX10_move 14 = .ok (.ifCond .ne 6, 3) := by decide +kernel
theorem dX10_move_17 : decode cX10_move 17 = .ok (.bipush (-2), 2) := by decide +kernel
theorem dX10_move_19 : decode cX10_move 19 = .ok (.ireturn, 1) := by decide +kernel
theorem dX10_move_20 : decode cX10_move 20 = .ok (.aload_n 0, 1) := by decide +kernel
theorem dX10_move_21 : decode cX10_move 21 = .ok (.invokevirtual 279, 3) := by decide +kernel
theorem dX10_move_24 : decode cX10_move 24 = .ok (.aload_n 0, 1) := by decide +kernel
theorem dX10_move_25 : decode cX10_move 25 = .ok (.getfield 40, 3) := by decide +kernel
theorem dX10_move_28 : decode cX10_move 28 = .ok (.iload_n 1, 1) := by decide +kernel
theorem dX10_move_29 : decode cX10_move 29 = .ok (.iaload, 1) := by decide +kernel
theorem dX10_move_30 : decode cX10_move 30 = .ok (.istore_n 3, 1) := by decide +kernel
theorem dX10_move_31 : decode cX10_move 31 = .ok (.aload_n 0, 1) := by decide +kernel
theorem dX10_move_32 : decode cX10_move 32 = .ok (.ldc 237, 2) := by decide +kernel
theorem dX10_move_34 : decode cX10_move 34 = .ok (.bipush 10, 2) := by decide +kernel
theorem dX10_move_36 : decode cX10_move 36 = .ok (.iload_n 1, 1) := by decide +kernel
theorem dX10_move_37 : decode cX10_move 37 = .ok (.imul, 1) := by decide +kernel
theorem dX10_move_38 : decode cX10_move 38 = .ok (.iadd, 1) := by decide +kernel
theorem dX10_move_39 : decode cX10_move 39 = .ok (.iload_n 2, 1) := by decide +kernel
theorem dX10_move_40 : decode cX10_move 40 = .ok (.iadd, 1) := by decide +kernel
theorem dX10_move_41 : decode cX10_move 41 = .ok (.invokevirtual 446, 3) := by decide +kernel
theorem dX10_move_44 : decode cX10_move 44 = .ok (.ifCond .ge 8, 3) := by decide +kernel
theorem dX10_move_47 : decode cX10_move 47 = .ok (.bipush (-5), 2) := by decide +kernel
theorem dX10_move_49 : decode cX10_move 49 = .ok (.goto 4, 3) := by decide +kernel
theorem dX10_move_52 : decode cX10_move 52 = .ok (.iload_n 3, 1) := by decide +kernel
theorem dX10_move_53 : decode cX10_move 53 = .ok (.ireturn, 1) := by decide +kernel
theorem dX10_undo_0 : decode cX10_undo 0 = .ok (.aload_n 0, 1) := by decide +kernel
theorem dX10_undo_1 : decode cX10_undo 1 = .ok (.invokevirtual 86, 3) := by decide +kernel
theorem dX10_undo_4 : decode cX10_undo 4 = .ok (.ifCond .ne 6, 3) := by decide +kernel
theorem dX10_undo_7 : decode cX10_undo 7 = .ok (.bipush (-2), 2) := by decide +kernel
theorem dX10_undo_9 : decode cX10_undo 9 = .ok (.ireturn, 1) := by decide +kernel
theorem dX10_undo_10 : decode cX10_undo 10 = .ok (.aload_n 0, 1) := by decide +kernel
theorem dX10_undo_11 : decode cX10_undo 11 = .ok (.getfield 9, 3) := by decide +kernel
theorem dX10_undo_14 : decode cX10_undo 14 = .ok (.bipush 8, 2) := by decide +kernel
theorem dX10_undo_16 : decode cX10_undo 16 = .ok (.iaload, 1) := by decide +kernel
theorem dX10_undo_17 : decode cX10_undo 17 = .ok (.ifCond .ne 6, 3) := by decide +kernel
theorem dX10_undo_20 : decode cX10_undo 20 = .ok (.bipush (-5), 2) := by decide +kernel
theorem dX10_undo_22 : decode cX10_undo 22 = .ok (.ireturn, 1) := by decide +kernel
theorem dX10_undo_23 : decode cX10_undo 23 = .ok (.aload_n 0, 1) := by decide +kernel
theorem dX10_undo_24 : decode cX10_undo 24 = .ok (.getfield 9, 3) := by decide +kernel
theorem dX10_undo_27 : decode cX10_undo 27 = .ok (.bipush 8, 2) := by decide +kernel
theorem dX10_undo_29 : decode cX10_undo 29 = .ok (.dup2, 1) := by decide +kernel
theorem dX10_undo_30 : decode cX10_undo 30 = .ok (.iaload, 1) := by decide +kernel
theorem dX10_undo_31 : decode cX10_undo 31 = .ok (.iconst 1, 1) := by decide +kernel
theorem dX10_undo_32 : decode cX10_undo 32 = .ok (.isub, 1) := by decide +kernel
theorem dX10_undo_33 : decode cX10_undo 33 = .ok (.iastore, 1) := by decide +kernel
theorem dX10_undo_34 : decode cX10_undo 34 = .ok (.aload_n 0, 1) := by decide +kernel
theorem dX10_undo_35 : decode cX10_undo 35 = .ok (.getfield 9, 3) := by decide +kernel
theorem dX10_undo_38 : decode cX10_undo 38 = .ok (.bipush 8, 2) := by decide +kernel
theorem dX10_undo_40 : decode cX10_undo 40 = .ok (.iaload, 1) := by decide +kernel
theorem dX10_undo_41 : decode cX10_undo 41 = .ok (.ireturn, 1) := by decide +kernel
theorem dX10_anew_0 : decode cX10_anew 0 = .ok (.aload_n 0, 1) := by decide +kernel
theorem dX10_anew_1 : decode cX10_anew 1 = .ok (.invokevirtual 86, 3) := by decide +kernel
theorem dX10_anew_4 : decode cX10_anew 4 = .ok (.ifCond .ne 6, 3) := by decide +kernel
theorem dX10_anew_7 : decode cX10_anew 7 = .ok (.bipush (-2), 2) := by decide +kernel
theorem dX10_anew_9 : decode cX10_anew 9 = .ok (.ireturn, 1) := by decide +kernel
theorem dX10_anew_10 : decode cX10_anew 10 = .ok (.aload_n 0, 1) := by decide +kernel
theorem dX10_anew_11 : decode cX10_anew 11 = .ok (.getfield 9, 3) := by decide +kernel
theorem dX10_anew_14 : decode cX10_anew 14 = .ok (.bipush 8, 2) := by decide +kernel
theorem dX10_anew_16 : decode cX10_anew 16 = .ok (.iaload, 1) := by decide +kernel
theorem dX10_anew_17 : decode cX10_anew 17 = .ok (.istore_n 1, 1) := by decide +kernel
theorem dX10_anew_18 : decode cX10_anew 18 = .ok (.aload_n 0, 1) := by decide +kernel
theorem dX10_anew_19 : decode cX10_anew 19 = .ok (.getfield 9, 3) := by decide +kernel
theorem dX10_anew_22 : decode cX10_anew 22 = .ok (.bipush 8, 2) := by decide +kernel
theorem dX10_anew_24 : decode cX10_anew 24 = .ok (.iconst 0, 1) := by decide +kernel
theorem dX10_anew_25 : decode cX10_anew 25 = .ok (.iastore, 1) := by decide +kernel
theorem dX10_anew_26 : decode cX10_anew 26 = .ok (.iload_n 1, 1) := by decide +kernel
theorem dX10_anew_27 : decode cX10_anew 27 = .ok (.ireturn, 1) := by decide +kernel
theorem dX10_goDrawn_0 : decode cX10_goDrawn 0 = .ok (.aload_n 0, 1) := by decide +kernel
theorem dX10_goDrawn_1 : decode cX10_goDrawn 1 = .ok (.invokevirtual 279, 3) := by decide +kernel
theorem dX10_goDrawn_4 : decode cX10_goDrawn 4 = .ok (.lload_n 1, 1) := by decide +kernel
theorem dX10_goDrawn_5 : decode cX10_goDrawn 5 = .ok (.lstore 4, 2) := by decide +kernel
theorem dX10_goDrawn_7 : decode cX10_goDrawn 7 = .ok (.iconst 0, 1) := by decide +kernel
theorem dX10_goDrawn_8 : decode cX10_goDrawn 8 = .ok (.istore 6, 2) := by decide +kernel
theorem dX10_goDrawn_10 : decode cX10_goDrawn 10 = .ok (.iload 6, 2) := by decide +kernel
theorem dX10_goDrawn_12 : decode cX10_goDrawn 12 = .ok (.aload_n 0, 1) := by decide +kernel
theorem dX10_goDrawn_13 : decode cX10_goDrawn 13 = .ok (.invokevirtual 247, 3) := by decide +kernel
theorem dX10_goDrawn_16 : decode cX10_goDrawn 16 = .ok (.if_icmp .gt 63, 3) := by decide +kernel
theorem dX10_goDrawn_19 : decode cX10_goDrawn 19 = .ok (.ldc2_w 449, 3) := by decide +kernel
theorem dX10_goDrawn_22 : decode cX10_goDrawn 22 = .ok (.lload 4, 2) := by decide +kernel
theorem dX10_goDrawn_24 : decode cX10_goDrawn 24 = .ok (.lmul, 1) := by decide +kernel
theorem dX10_goDrawn_25 : decode cX10_goDrawn 25 = .ok (.ldc2_w 451, 3) := by decide +kernel
theorem dX10_goDrawn_28 : decode cX10_goDrawn 28 = .ok (.ladd, 1) := by decide +kernel
theorem dX10_goDrawn_29 : decode cX10_goDrawn 29 = .ok (.ldc2_w 453, 3) := by decide +kernel
theorem dX10_goDrawn_32 : decode cX10_goDrawn 32 = .ok (.lrem, 1) := by decide +kernel
theorem dX10_goDrawn_33 : decode cX10_goDrawn 33 = .ok (.lstore 4, 2) := by decide +kernel
theorem dX10_goDrawn_35 : decode cX10_goDrawn 35 = .ok (.aload_n 0, 1) := by decide +kernel
theorem dX10_goDrawn_36 : decode cX10_goDrawn 36 = .ok (.dup, 1) := by decide +kernel
theorem dX10_goDrawn_37 : decode cX10_goDrawn 37 = .ok (.getfield 270, 3) := by decide +kernel
theorem dX10_goDrawn_40 : decode cX10_goDrawn 40 = .ok (.lload 4, 2) := by decide +kernel
theorem dX10_goDrawn_42 : decode cX10_goDrawn 42 = .ok (.ldc2_w 455, 3) := by decide +kernel
theorem dX10_goDrawn_45 : decode cX10_goDrawn 45 = .ok (.ldiv, 1) := by decide +kernel
theorem dX10_goDrawn_46 : decode cX10_goDrawn 46 = .ok (.ldc2_w 457, 3) := by decide +kernel
theorem dX10_goDrawn_49 : decode cX10_goDrawn 49 = .ok (.lrem, 1) := by decide +kernel
theorem dX10_goDrawn_50 : decode cX10_goDrawn 50 = .ok (.aload_n 0, 1) := by decide +kernel
theorem dX10_goDrawn_51 : decode cX10_goDrawn 51 = .ok (.getfield 9, 3) := by decide +kernel
theorem dX10_goDrawn_54 : decode cX10_goDrawn 54 = .ok (.iconst 3, 1) := by decide +kernel
theorem dX10_goDrawn_55 : decode cX10_goDrawn 55 = .ok (.iaload, 1) := by decide +kernel
theorem dX10_goDrawn_56 : decode cX10_goDrawn 56 = .ok (.i2l, 1) := by decide +kernel
theorem dX10_goDrawn_57 : decode cX10_goDrawn 57 = .ok (.lcmp, 1) := by decide +kernel
theorem dX10_goDrawn_58 : decode cX10_goDrawn 58 = .ok (.ifCond .ge 10, 3) := by decide +kernel
theorem dX10_goDrawn_61 : decode cX10_goDrawn 61 = .ok (.iconst 1, 1) := by decide +kernel
theorem dX10_goDrawn_62 : decode cX10_goDrawn 62 = .ok (.iload 6, 2) := by decide +kernel
theorem dX10_goDrawn_64 : decode cX10_goDrawn 64 = .ok (.ishl, 1) := by decide +kernel
theorem dX10_goDrawn_65 : decode cX10_goDrawn 65 = .ok (.goto 4, 3) := by decide +kernel
theorem dX10_goDrawn_68 : decode cX10_goDrawn 68 = .ok (.iconst 0, 1) := by decide +kernel
theorem dX10_goDrawn_69 : decode cX10_goDrawn 69 = .ok (.ior, 1) := by decide +kernel
theorem dX10_goDrawn_70 : decode cX10_goDrawn 70 = .ok (.putfield 270, 3) := by decide +kernel
theorem dX10_goDrawn_73 : decode cX10_goDrawn 73 = .ok (.iinc 6 1, 3) := by decide +kernel
theorem dX10_goDrawn_76 : decode cX10_goDrawn 76 = .ok (.goto (-66), 3) := by decide +kernel
theorem dX10_goDrawn_79 : decode cX10_goDrawn 79 = .ok (.aload_n 0, 1) := by decide +kernel
theorem dX10_goDrawn_80 : decode cX10_goDrawn 80 = .ok (.iload_n 3, 1) := by decide +kernel
theorem dX10_goDrawn_81 : decode cX10_goDrawn 81 = .ok (.invokevirtual 338, 3) := by decide +kernel
theorem dX10_goDrawn_84 : decode cX10_goDrawn 84 = .ok (.ireturn, 1) := by decide +kernel
theorem dX10_isSeed_0 : decode cX10_isSeed 0 = .ok (.iload_n 0, 1) := by decide +kernel
theorem dX10_isSeed_1 : decode cX10_isSeed 1 = .ok (.i2l, 1) := by decide +kernel
theorem dX10_isSeed_2 : decode cX10_isSeed 2 = .ok (.lconst 0, 1) := by decide +kernel
theorem dX10_isSeed_3 : decode cX10_isSeed 3 = .ok (.ldc2_w 459, 3) := by decide +kernel
theorem dX10_isSeed_6 : decode cX10_isSeed 6 = .ok (.invokestatic 82, 3) := by decide +kernel
theorem dX10_isSeed_9 : decode cX10_isSeed 9 = .ok (.ireturn, 1) := by decide +kernel
theorem dX10_drawn_0 : decode cX10_drawn 0 = .ok (.iload_n 1, 1) := by decide +kernel
theorem dX10_drawn_1 : decode cX10_drawn 1 = .ok (.invokestatic 461, 3) := by decide +kernel
theorem dX10_drawn_4 : decode cX10_drawn 4 = .ok (.ifCond .eq 22, 3) := by decide +kernel
theorem dX10_drawn_7 : decode cX10_drawn 7 = .ok (.aload_n 0, 1) := by decide +kernel
theorem dX10_drawn_8 : decode cX10_drawn 8 = .ok (.iload_n 2, 1) := by decide +kernel
theorem dX10_drawn_9 : decode cX10_drawn 9 = .ok (.i2l, 1) := by decide +kernel
theorem dX10_drawn_10 : decode cX10_drawn 10 = .ok (.invokevirtual 222, 3) := by decide +kernel
theorem dX10_drawn_13 : decode cX10_drawn 13 = .ok (.ifCond .eq 13, 3) := by decide +kernel
theorem dX10_drawn_16 : decode cX10_drawn 16 = .ok (.iload_n 3, 1) := by decide +kernel
theorem dX10_drawn_17 : decode cX10_drawn 17 = .ok (.i2l, 1) := by decide +kernel
theorem dX10_drawn_18 : decode cX10_drawn 18 = .ok (.lconst 0, 1) := by decide +kernel
theorem dX10_drawn_19 : decode cX10_drawn 19 = .ok (.lconst 1, 1) := by decide +kernel
theorem dX10_drawn_20 : decode cX10_drawn 20 = .ok (.invokestatic 82, 3) := by decide +kernel
theorem dX10_drawn_23 : decode cX10_drawn 23 = .ok (.ifCond .ne 6, 3) := by decide +kernel
theorem dX10_drawn_26 : decode cX10_drawn 26 = .ok (.bipush (-2), 2) := by decide +kernel
theorem dX10_drawn_28 : decode cX10_drawn 28 = .ok (.ireturn, 1) := by decide +kernel
theorem dX10_drawn_29 : decode cX10_drawn 29 = .ok (.aload_n 0, 1) := by decide +kernel
theorem dX10_drawn_30 : decode cX10_drawn 30 = .ok (.iload_n 1, 1) := by decide +kernel
theorem dX10_drawn_31 : decode cX10_drawn 31 = .ok (.i2l, 1) := by decide +kernel
theorem dX10_drawn_32 : decode cX10_drawn 32 = .ok (.iload_n 2, 1) := by decide +kernel
theorem dX10_drawn_33 : decode cX10_drawn 33 = .ok (.invokevirtual 464, 3) := by decide +kernel
theorem dX10_drawn_36 : decode cX10_drawn 36 = .ok (.istore 4, 2) := by decide +kernel
theorem dX10_drawn_38 : decode cX10_drawn 38 = .ok (.iload_n 3, 1) := by decide +kernel
theorem dX10_drawn_39 : decode cX10_drawn 39 = .ok (.ifCond .ne 10, 3) := by decide +kernel
theorem dX10_drawn_42 : decode cX10_drawn 42 = .ok (.aload_n 0, 1) := by decide +kernel
theorem dX10_drawn_43 : decode cX10_drawn 43 = .ok (.getfield 270, 3) := by decide +kernel
theorem dX10_drawn_46 : decode cX10_drawn 46 = .ok (.goto 5, 3) := by decide +kernel
theorem dX10_drawn_49 : decode cX10_drawn 49 = .ok (.iload 4, 2) := by decide +kernel
theorem dX10_drawn_51 : decode cX10_drawn 51 = .ok (.ireturn, 1) := by decide +kernel
theorem dX10_luck_0 : decode cX10_luck 0 = .ok (.iload_n 1, 1) := by decide +kernel
theorem dX10_luck_1 : decode cX10_luck 1 = .ok (.invokestatic 461, 3) := by decide +kernel
theorem dX10_luck_4 : decode cX10_luck 4 = .ok (.ifCond .eq 34, 3) := by decide +kernel
theorem dX10_luck_7 : decode cX10_luck 7 = .ok (.iload_n 2, 1) := by decide +kernel
theorem dX10_luck_8 : decode cX10_luck 8 = .ok (.i2l, 1) := by decide +kernel
theorem dX10_luck_9 : decode cX10_luck 9 = .ok (.lconst 1, 1) := by decide +kernel
theorem dX10_luck_10 : decode cX10_luck 10 = .ok (.ldc2_w 468, 3) := by decide +kernel
theorem dX10_luck_13 : decode cX10_luck 13 = .ok (.invokestatic 82, 3) := by decide +kernel
theorem dX10_luck_16 : decode cX10_luck 16 = .ok (.ifCond .eq 22, 3) := by decide +kernel
theorem dX10_luck_19 : decode cX10_luck 19 = .ok (.aload_n 0, 1) := by decide +kernel
theorem dX10_luck_20 : decode cX10_luck 20 = .ok (.iload_n 3, 1) := by decide +kernel
theorem dX10_luck_21 : decode cX10_luck 21 = .ok (.i2l, 1) := by decide +kernel
theorem dX10_luck_22 : decode cX10_luck 22 = .ok (.invokevirtual 222, 3) := by decide +kernel
theorem dX10_luck_25 : decode cX10_luck 25 = .ok (.ifCond .eq 13, 3) := by decide +kernel
theorem dX10_luck_28 : decode cX10_luck 28 = .ok (.aload_n 0, 1) := by decide +kernel
theorem dX10_luck_29 : decode cX10_luck 29 = .ok (.iload 4, 2) := by decide +kernel
theorem dX10_luck_31 : decode cX10_luck 31 = .ok (.i2l, 1) := by decide +kernel
theorem dX10_luck_32 : decode cX10_luck 32 = .ok (.invokevirtual 222, 3) := by decide +kernel
theorem dX10_luck_35 : decode cX10_luck 35 = .ok (.ifCond .ne 6, 3) := by decide +kernel
theorem dX10_luck_38 : decode cX10_luck 38 = .ok (.bipush (-2), 2) := by decide +kernel
theorem dX10_luck_40 : decode cX10_luck 40 = .ok (.ireturn, 1) := by decide +kernel
theorem dX10_luck_41 : decode cX10_luck 41 = .ok (.iconst 0, 1) := by decide +kernel
theorem dX10_luck_42 : decode cX10_luck 42 = .ok (.istore 5, 2) := by decide +kernel
theorem dX10_luck_44 : decode cX10_luck 44 = .ok (.iconst 0, 1) := by decide +kernel
theorem dX10_luck_45 : decode cX10_luck 45 = .ok (.istore 6, 2) := by decide +kernel
theorem dX10_luck_47 : decode cX10_luck 47 = .ok (.iload 6, 2) := by decide +kernel
theorem dX10_luck_49 : decode cX10_luck 49 = .ok (.iload_n 2, 1) := by decide +kernel
theorem dX10_luck_50 : decode cX10_luck 50 = .ok (.if_icmp .ge 30, 3) := by decide +kernel
theorem dX10_luck_53 : decode cX10_luck 53 = .ok (.iload 5, 2) := by decide +kernel
theorem dX10_luck_55 : decode cX10_luck 55 = .ok (.aload_n 0, 1) := by decide +kernel
theorem dX10_luck_56 : decode cX10_luck 56 = .ok (.iload_n 1, 1) := by decide +kernel
theorem dX10_luck_57 : decode cX10_luck 57 = .ok (.i2l, 1) := by decide +kernel
theorem dX10_luck_58 : decode cX10_luck 58 = .ok (.iload 6, 2) := by decide +kernel
theorem dX10_luck_60 : decode cX10_luck 60 = .ok (.i2l, 1) := by decide +kernel
theorem dX10_luck_61 : decode cX10_luck 61 = .ok (.ladd, 1) := by decide +kernel
theorem dX10_luck_62 : decode cX10_luck 62 = .ok (.iload_n 3, 1) := by decide +kernel
theorem dX10_luck_63 : decode cX10_luck 63 = .ok (.invokevirtual 464, 3) := by decide +kernel
theorem dX10_luck_66 : decode cX10_luck 66 = .ok (.iload 4, 2) := by decide +kernel
theorem dX10_luck_68 : decode cX10_luck 68 = .ok (.invokestatic 252, 3) := by decide +kernel
theorem dX10_luck_71 : decode cX10_luck 71 = .ok (.iadd, 1) := by decide +kernel
theorem dX10_luck_72 : decode cX10_luck 72 = .ok (.istore 5, 2) := by decide +kernel
theorem dX10_luck_74 : decode cX10_luck 74 = .ok (.iinc 6 1, 3) := by decide +kernel
theorem dX10_luck_77 : decode cX10_luck 77 = .ok (.goto (-30), 3) := by decide +kernel
theorem dX10_luck_80 : decode cX10_luck 80 = .ok (.iload 5, 2) := by decide +kernel
theorem dX10_luck_82 : decode cX10_luck 82 = .ok (.ireturn, 1) := by decide +kernel
theorem dX10_hang_0 : decode cX10_hang 0 = .ok (.aload_n 0, 1) := by decide +kernel
theorem dX10_hang_1 : decode cX10_hang 1 = .ok (.iload_n 1, 1) := by decide +kernel
theorem dX10_hang_2 : decode cX10_hang 2 = .ok (.invokevirtual 218, 3) := by decide +kernel
theorem dX10_hang_5 : decode cX10_hang 5 = .ok (.ifCond .eq 15, 3) := by decide +kernel
theorem dX10_hang_8 : decode cX10_hang 8 = .ok (.iload_n 2, 1) := by decide +kernel
theorem dX10_hang_9 : decode cX10_hang 9 = .ok (.i2l, 1) := by decide +kernel
theorem dX10_hang_10 : decode cX10_hang 10 = .ok (.lconst 1, 1) := by decide +kernel
theorem dX10_hang_11 : decode cX10_hang 11 = .ok (.ldc2_w 470, 3) := by decide +kernel
theorem dX10_hang_14 : decode cX10_hang 14 = .ok (.invokestatic 82, 3) := by decide +kernel
theorem dX10_hang_17 : decode cX10_hang 17 = .ok (.ifCond .ne 6, 3) := by decide +kernel
theorem dX10_hang_20 : decode cX10_hang 20 = .ok (.bipush (-2), 2) := by decide +kernel
theorem dX10_hang_22 : decode cX10_hang 22 = .ok (.ireturn, 1) := by decide +kernel
theorem dX10_hang_23 : decode cX10_hang 23 = .ok (.aload_n 0, 1) := by decide +kernel
theorem dX10_hang_24 : decode cX10_hang 24 = .ok (.getfield 9, 3) := by decide +kernel
theorem dX10_hang_27 : decode cX10_hang 27 = .ok (.bipush 8, 2) := by decide +kernel
theorem dX10_hang_29 : decode cX10_hang 29 = .ok (.iaload, 1) := by decide +kernel
theorem dX10_hang_30 : decode cX10_hang 30 = .ok (.ifCond .le 6, 3) := by decide +kernel
theorem dX10_hang_33 : decode cX10_hang 33 = .ok (.bipush (-5), 2) := by decide +kernel
theorem dX10_hang_35 : decode cX10_hang 35 = .ok (.ireturn, 1) := by decide +kernel
theorem dX10_hang_36 : decode cX10_hang 36 = .ok (.aload_n 0, 1) := by decide +kernel
theorem dX10_hang_37 : decode cX10_hang 37 = .ok (.getfield 9, 3) := by decide +kernel
theorem dX10_hang_40 : decode cX10_hang 40 = .ok (.bipush 10, 2) := by decide +kernel
theorem dX10_hang_42 : decode cX10_hang 42 = .ok (.iconst 3, 1) := by decide +kernel
theorem dX10_hang_43 : decode cX10_hang 43 = .ok (.iload_n 1, 1) := by decide +kernel
theorem dX10_hang_44 : decode cX10_hang 44 = .ok (.imul, 1) := by decide +kernel
theorem dX10_hang_45 : decode cX10_hang 45 = .ok (.iadd, 1) := by decide +kernel
theorem dX10_hang_46 : decode cX10_hang 46 = .ok (.iconst 2, 1) := by decide +kernel
theorem dX10_hang_47 : decode cX10_hang 47 = .ok (.iadd, 1) := by decide +kernel
theorem dX10_hang_48 : decode cX10_hang 48 = .ok (.iaload, 1) := by decide +kernel
theorem dX10_hang_49 : decode cX10_hang 49 = .ok (.istore_n 3, 1) := by decide +kernel
theorem dX10_hang_50 : decode cX10_hang 50 = .ok (.aload_n 0, 1) := by decide +kernel
theorem dX10_hang_51 : decode cX10_hang 51 = .ok (.getfield 9, 3) := by decide +kernel
theorem dX10_hang_54 : decode cX10_hang 54 = .ok (.bipush 10, 2) := by decide +kernel
theorem dX10_hang_56 : decode cX10_hang 56 = .ok (.iconst 3, 1) := by decide +kernel
theorem dX10_hang_57 : decode cX10_hang 57 = .ok (.iload_n 1, 1) := by decide +kernel
theorem dX10_hang_58 : decode cX10_hang 58 = .ok (.imul, 1) := by decide +kernel
theorem dX10_hang_59 : decode cX10_hang 59 = .ok (.iadd, 1) := by decide +kernel
theorem dX10_hang_60 : decode cX10_hang 60 = .ok (.iconst 2, 1) := by decide +kernel
theorem dX10_hang_61 : decode cX10_hang 61 = .ok (.iadd, 1) := by decide +kernel
theorem dX10_hang_62 : decode cX10_hang 62 = .ok (.iload_n 2, 1) := by decide +kernel
theorem dX10_hang_63 : decode cX10_hang 63 = .ok (.iastore, 1) := by decide +kernel
theorem dX10_hang_64 : decode cX10_hang 64 = .ok (.iload_n 3, 1) := by decide +kernel
theorem dX10_hang_65 : decode cX10_hang 65 = .ok (.ireturn, 1) := by decide +kernel
theorem dX10_count_0 : decode cX10_count 0 = .ok (.iload_n 1, 1) := by decide +kernel
theorem dX10_count_1 : decode cX10_count 1 = .ok (.i2l, 1) := by decide +kernel
theorem dX10_count_2 : decode cX10_count 2 = .ok (.lconst 0, 1) := by decide +kernel
theorem dX10_count_3 : decode cX10_count 3 = .ok (.ldc2_w 470, 3) := by decide +kernel
theorem dX10_count_6 : decode cX10_count 6 = .ok (.invokestatic 82, 3) := by decide +kernel
theorem dX10_count_9 : decode cX10_count 9 = .ok (.ifCond .eq 10, 3) := by decide +kernel
theorem dX10_count_12 : decode cX10_count 12 = .ok (.aload_n 0, 1) := by decide +kernel
theorem dX10_count_13 : decode cX10_count 13 = .ok (.getfield 9, 3) := by decide +kernel
theorem dX10_count_16 : decode cX10_count 16 = .ok (.iload_n 1, 1) := by decide +kernel
theorem dX10_count_17 : decode cX10_count 17 = .ok (.iaload, 1) := by decide +kernel
theorem dX10_count_18 : decode cX10_count 18 = .ok (.ireturn, 1) := by decide +kernel
theorem dX10_count_19 : decode cX10_count 19 = .ok (.iload_n 1, 1) := by decide +kernel
theorem dX10_count_20 : decode cX10_count 20 = .ok (.bipush 10, 2) := by decide +kernel
theorem dX10_count_22 : decode cX10_count 22 = .ok (.if_icmp .ne 8, 3) := by decide +kernel
theorem dX10_count_25 : decode cX10_count 25 = .ok (.aload_n 0, 1) := by decide +kernel
theorem dX10_count_26 : decode cX10_count 26 = .ok (.getfield 90, 3) := by decide +kernel
theorem dX10_count_29 : decode cX10_count 29 = .ok (.ireturn, 1) := by decide +kernel
theorem dX10_count_30 : decode cX10_count 30 = .ok (.iload_n 1, 1) := by decide +kernel
theorem dX10_count_31 : decode cX10_count 31 = .ok (.bipush 11, 2) := by decide +kernel
theorem dX10_count_33 : decode cX10_count 33 = .ok (.if_icmp .eq 5, 3) := by decide +kernel
theorem dX10_count_36 : decode cX10_count 36 = .ok (.iconst (-1), 1) := by decide +kernel
theorem dX10_count_37 : decode cX10_count 37 = .ok (.ireturn, 1) := by decide +kernel
theorem dX10_count_38 : decode cX10_count 38 = .ok (.iconst 0, 1) := by decide +kernel
theorem dX10_count_39 : decode cX10_count 39 = .ok (.istore_n 2, 1) := by decide +kernel
theorem dX10_count_40 : decode cX10_count 40 = .ok (.iconst 0, 1) := by decide +kernel
theorem dX10_count_41 : decode cX10_count 41 = .ok (.istore_n 3, 1) := by decide +kernel
theorem dX10_count_42 : decode cX10_count 42 = .ok (.iload_n 3, 1) := by decide +kernel
theorem dX10_count_43 : decode cX10_count 43 = .ok (.iconst 4, 1) := by decide +kernel
theorem dX10_count_44 : decode cX10_count 44 = .ok (.if_icmp .ge 27, 3) := by decide +kernel
theorem dX10_count_47 : decode cX10_count 47 = .ok (.iload_n 2, 1) := by decide +kernel
theorem dX10_count_48 : decode cX10_count 48 = .ok (.aload_n 0, 1) := by decide +kernel
theorem dX10_count_49 : decode cX10_count 49 = .ok (.getfield 64, 3) := by decide +kernel
theorem dX10_count_52 : decode cX10_count 52 = .ok (.iload_n 3, 1) := by decide +kernel
theorem dX10_count_53 : decode cX10_count 53 = .ok (.iaload, 1) := by decide +kernel
theorem dX10_count_54 : decode cX10_count 54 = .ok (.iconst (-1), 1) := by decide +kernel
theorem dX10_count_55 : decode cX10_count 55 = .ok (.if_icmp .ne 7, 3) := by decide +kernel
theorem dX10_count_58 : decode cX10_count 58 = .ok (.iconst 0, 1) := by decide +kernel
