theorem dX10_count_59 : decode cX10_count 59 = .ok (.goto 4, 3) := by decide +kernel
theorem dX10_count_62 : decode cX10_count 62 = .ok (.iconst 1, 1) := by decide +kernel
theorem dX10_count_63 : decode cX10_count 63 = .ok (.iadd, 1) := by decide +kernel
theorem dX10_count_64 : decode cX10_count 64 = .ok (.istore_n 2, 1) := by decide +kernel
theorem dX10_count_65 : decode cX10_count 65 = .ok (.iinc 3 1, 3) := by decide +kernel
theorem dX10_count_68 : decode cX10_count 68 = .ok (.goto (-26), 3) := by decide +kernel
theorem dX10_count_71 : decode cX10_count 71 = .ok (.iload_n 2, 1) := by decide +kernel
theorem dX10_count_72 : decode cX10_count 72 = .ok (.ireturn, 1) := by decide +kernel
theorem dX10_isSlot_0 : decode cX10_isSlot 0 = .ok (.iload_n 0, 1) := by decide +kernel
theorem dX10_isSlot_1 : decode cX10_isSlot 1 = .ok (.i2l, 1) := by decide +kernel
theorem dX10_isSlot_2 : decode cX10_isSlot 2 = .ok (.lconst 0, 1) := by decide +kernel
theorem dX10_isSlot_3 : decode cX10_isSlot 3 = .ok (.ldc2_w 346, 3) := by decide +kernel
theorem dX10_isSlot_6 : decode cX10_isSlot 6 = .ok (.invokestatic 82, 3) := by decide +kernel
theorem dX10_isSlot_9 : decode cX10_isSlot 9 = .ok (.ireturn, 1) := by decide +kernel
theorem dX10_cut_0 : decode cX10_cut 0 = .ok (.bipush 64, 2) := by decide +kernel
theorem dX10_cut_2 : decode cX10_cut 2 = .ok (.bipush 8, 2) := by decide +kernel
theorem dX10_cut_4 : decode cX10_cut 4 = .ok (.iload_n 2, 1) := by decide +kernel
theorem dX10_cut_5 : decode cX10_cut 5 = .ok (.ishl, 1) := by decide +kernel
theorem dX10_cut_6 : decode cX10_cut 6 = .ok (.isub, 1) := by decide +kernel
theorem dX10_cut_7 : decode cX10_cut 7 = .ok (.istore_n 3, 1) := by decide +kernel
theorem dX10_cut_8 : decode cX10_cut 8 = .ok (.lload_n 0, 1) := by decide +kernel
theorem dX10_cut_9 : decode cX10_cut 9 = .ok (.iload_n 3, 1) := by decide +kernel
theorem dX10_cut_10 : decode cX10_cut 10 = .ok (.lshl, 1) := by decide +kernel
theorem dX10_cut_11 : decode cX10_cut 11 = .ok (.iload_n 3, 1) := by decide +kernel
theorem dX10_cut_12 : decode cX10_cut 12 = .ok (.lshr, 1) := by decide +kernel
theorem dX10_cut_13 : decode cX10_cut 13 = .ok (.lreturn, 1) := by decide +kernel
theorem dX10_row_0 : decode cX10_row 0 = .ok (.iload_n 1, 1) := by decide +kernel
theorem dX10_row_1 : decode cX10_row 1 = .ok (.invokestatic 375, 3) := by decide +kernel
theorem dX10_row_4 : decode cX10_row 4 = .ok (.ifCond .eq 21, 3) := by decide +kernel
theorem dX10_row_7 : decode cX10_row 7 = .ok (.iload_n 2, 1) := by decide +kernel
theorem dX10_row_8 : decode cX10_row 8 = .ok (.i2l, 1) := by decide +kernel
theorem dX10_row_9 : decode cX10_row 9 = .ok (.lconst 0, 1) := by decide +kernel
theorem dX10_row_10 : decode cX10_row 10 = .ok (.ldc2_w 346, 3) := by decide +kernel
theorem dX10_row_13 : decode cX10_row 13 = .ok (.invokestatic 82, 3) := by decide +kernel
theorem dX10_row_16 : decode cX10_row 16 = .ok (.ifCond .eq 9, 3) := by decide +kernel
theorem dX10_row_19 : decode cX10_row 19 = .ok (.iload_n 3, 1) := by decide +kernel
theorem dX10_row_20 : decode cX10_row 20 = .ok (.bipush 60, 2) := by decide +kernel
theorem dX10_row_22 : decode cX10_row 22 = .ok (.if_icmp .le 6, 3) := by decide +kernel
theorem dX10_row_25 : decode cX10_row 25 = .ok (.bipush (-2), 2) := by decide +kernel
theorem dX10_row_27 : decode cX10_row 27 = .ok (.ireturn, 1) := by decide +kernel
theorem dX10_row_28 : decode cX10_row 28 = .ok (.iload_n 3, 1) := by decide +kernel
theorem dX10_row_29 : decode cX10_row 29 = .ok (.ifCond .ge 6, 3) := by decide +kernel
theorem dX10_row_32 : decode cX10_row 32 = .ok (.bipush (-3), 2) := by decide +kernel
theorem dX10_row_34 : decode cX10_row 34 = .ok (.ireturn, 1) := by decide +kernel
theorem dX10_row_35 : decode cX10_row 35 = .ok (.aload_n 0, 1) := by decide +kernel
theorem dX10_row_36 : decode cX10_row 36 = .ok (.getfield 64, 3) := by decide +kernel
theorem dX10_row_39 : decode cX10_row 39 = .ok (.iload_n 1, 1) := by decide +kernel
theorem dX10_row_40 : decode cX10_row 40 = .ok (.iload_n 3, 1) := by decide +kernel
theorem dX10_row_41 : decode cX10_row 41 = .ok (.iastore, 1) := by decide +kernel
theorem dX10_row_42 : decode cX10_row 42 = .ok (.aload_n 0, 1) := by decide +kernel
theorem dX10_row_43 : decode cX10_row 43 = .ok (.getfield 67, 3) := by decide +kernel
theorem dX10_row_46 : decode cX10_row 46 = .ok (.iload_n 1, 1) := by decide +kernel
theorem dX10_row_47 : decode cX10_row 47 = .ok (.iload_n 2, 1) := by decide +kernel
theorem dX10_row_48 : decode cX10_row 48 = .ok (.iastore, 1) := by decide +kernel
theorem dX10_row_49 : decode cX10_row 49 = .ok (.iconst 0, 1) := by decide +kernel
theorem dX10_row_50 : decode cX10_row 50 = .ok (.istore 4, 2) := by decide +kernel
theorem dX10_row_52 : decode cX10_row 52 = .ok (.iload 4, 2) := by decide +kernel
theorem dX10_row_54 : decode cX10_row 54 = .ok (.bipush 60, 2) := by decide +kernel
theorem dX10_row_56 : decode cX10_row 56 = .ok (.if_icmp .ge 22, 3) := by decide +kernel
theorem dX10_row_59 : decode cX10_row 59 = .ok (.aload_n 0, 1) := by decide +kernel
theorem dX10_row_60 : decode cX10_row 60 = .ok (.getfield 70, 3) := by decide +kernel
theorem dX10_row_63 : decode cX10_row 63 = .ok (.bipush 60, 2) := by decide +kernel
theorem dX10_row_65 : decode cX10_row 65 = .ok (.iload_n 1, 1) := by decide +kernel
theorem dX10_row_66 : decode cX10_row 66 = .ok (.imul, 1) := by decide +kernel
theorem dX10_row_67 : decode cX10_row 67 = .ok (.iload 4, 2) := by decide +kernel
theorem dX10_row_69 : decode cX10_row 69 = .ok (.iadd, 1) := by decide +kernel
theorem dX10_row_70 : decode cX10_row 70 = .ok (.lconst 0, 1) := by decide +kernel
theorem dX10_row_71 : decode cX10_row 71 = .ok (.lastore, 1) := by decide +kernel
theorem dX10_row_72 : decode cX10_row 72 = .ok (.iinc 4 1, 3) := by decide +kernel
theorem dX10_row_75 : decode cX10_row 75 = .ok (.goto (-23), 3) := by decide +kernel
theorem dX10_row_78 : decode cX10_row 78 = .ok (.iconst 0, 1) := by decide +kernel
theorem dX10_row_79 : decode cX10_row 79 = .ok (.ireturn, 1) := by decide +kernel
theorem dX10_write_0 : decode cX10_write 0 = .ok (.iload_n 1, 1) := by decide +kernel
theorem dX10_write_1 : decode cX10_write 1 = .ok (.invokestatic 375, 3) := by decide +kernel
theorem dX10_write_4 : decode cX10_write 4 = .ok (.ifCond .ne 6, 3) := by decide +kernel
theorem dX10_write_7 : decode cX10_write 7 = .ok (.bipush (-2), 2) := by decide +kernel
theorem dX10_write_9 : decode cX10_write 9 = .ok (.ireturn, 1) := by decide +kernel
theorem dX10_write_10 : decode cX10_write 10 = .ok (.aload_n 0, 1) := by decide +kernel
theorem dX10_write_11 : decode cX10_write 11 = .ok (.getfield 64, 3) := by decide +kernel
theorem dX10_write_14 : decode cX10_write 14 = .ok (.iload_n 1, 1) := by decide +kernel
theorem dX10_write_15 : decode cX10_write 15 = .ok (.iaload, 1) := by decide +kernel
theorem dX10_write_16 : decode cX10_write 16 = .ok (.iconst (-1), 1) := by decide +kernel
theorem dX10_write_17 : decode cX10_write 17 = .ok (.if_icmp .ne 6, 3) := by decide +kernel
theorem dX10_write_20 : decode cX10_write 20 = .ok (.bipush (-6), 2) := by decide +kernel
theorem dX10_write_22 : decode cX10_write 22 = .ok (.ireturn, 1) := by decide +kernel
theorem dX10_write_23 : decode cX10_write 23 = .ok (.iload_n 2, 1) := by decide +kernel
theorem dX10_write_24 : decode cX10_write 24 = .ok (.i2l, 1) := by decide +kernel
theorem dX10_write_25 : decode cX10_write 25 = .ok (.lconst 0, 1) := by decide +kernel
theorem dX10_write_26 : decode cX10_write 26 = .ok (.aload_n 0, 1) := by decide +kernel
theorem dX10_write_27 : decode cX10_write 27 = .ok (.getfield 64, 3) := by decide +kernel
theorem dX10_write_30 : decode cX10_write 30 = .ok (.iload_n 1, 1) := by decide +kernel
theorem dX10_write_31 : decode cX10_write 31 = .ok (.iaload, 1) := by decide +kernel
theorem dX10_write_32 : decode cX10_write 32 = .ok (.iconst 1, 1) := by decide +kernel
theorem dX10_write_33 : decode cX10_write 33 = .ok (.isub, 1) := by decide +kernel
theorem dX10_write_34 : decode cX10_write 34 = .ok (.i2l, 1) := by decide +kernel
theorem dX10_write_35 : decode cX10_write 35 = .ok (.invokestatic 82, 3) := by decide +kernel
theorem dX10_write_38 : decode cX10_write 38 = .ok (.ifCond .ne 6, 3) := by decide +kernel
theorem dX10_write_41 : decode cX10_write 41 = .ok (.bipush (-7), 2) := by decide +kernel
theorem dX10_write_43 : decode cX10_write 43 = .ok (.ireturn, 1) := by decide +kernel
theorem dX10_write_44 : decode cX10_write 44 = .ok (.aload_n 0, 1) := by decide +kernel
theorem dX10_write_45 : decode cX10_write 45 = .ok (.getfield 70, 3) := by decide +kernel
theorem dX10_write_48 : decode cX10_write 48 = .ok (.bipush 60, 2) := by decide +kernel
theorem dX10_write_50 : decode cX10_write 50 = .ok (.iload_n 1, 1) := by decide +kernel
theorem dX10_write_51 : decode cX10_write 51 = .ok (.imul, 1) := by decide +kernel
theorem dX10_write_52 : decode cX10_write 52 = .ok (.iload_n 2, 1) := by decide +kernel
theorem dX10_write_53 : decode cX10_write 53 = .ok (.iadd, 1) := by decide +kernel
theorem dX10_write_54 : decode cX10_write 54 = .ok (.lload_n 3, 1) := by decide +kernel
theorem dX10_write_55 : decode cX10_write 55 = .ok (.aload_n 0, 1) := by decide +kernel
theorem dX10_write_56 : decode cX10_write 56 = .ok (.getfield 67, 3) := by decide +kernel
theorem dX10_write_59 : decode cX10_write 59 = .ok (.iload_n 1, 1) := by decide +kernel
theorem dX10_write_60 : decode cX10_write 60 = .ok (.iaload, 1) := by decide +kernel
theorem dX10_write_61 : decode cX10_write 61 = .ok (.invokestatic 472, 3) := by decide +kernel
theorem dX10_write_64 : decode cX10_write 64 = .ok (.lastore, 1) := by decide +kernel
theorem dX10_write_65 : decode cX10_write 65 = .ok (.iconst 0, 1) := by decide +kernel
theorem dX10_write_66 : decode cX10_write 66 = .ok (.ireturn, 1) := by decide +kernel
theorem dX10_paste_0 : decode cX10_paste 0 = .ok (.iload_n 1, 1) := by decide +kernel
theorem dX10_paste_1 : decode cX10_paste 1 = .ok (.invokestatic 375, 3) := by decide +kernel
theorem dX10_paste_4 : decode cX10_paste 4 = .ok (.ifCond .eq 10, 3) := by decide +kernel
theorem dX10_paste_7 : decode cX10_paste 7 = .ok (.iload_n 3, 1) := by decide +kernel
theorem dX10_paste_8 : decode cX10_paste 8 = .ok (.invokestatic 375, 3) := by decide +kernel
theorem dX10_paste_11 : decode cX10_paste 11 = .ok (.ifCond .ne 6, 3) := by decide +kernel
theorem dX10_paste_14 : decode cX10_paste 14 = .ok (.bipush (-2), 2) := by decide +kernel
theorem dX10_paste_16 : decode cX10_paste 16 = .ok (.ireturn, 1) := by decide +kernel
theorem dX10_paste_17 : decode cX10_paste 17 = .ok (.aload_n 0, 1) := by decide +kernel
theorem dX10_paste_18 : decode cX10_paste 18 = .ok (.getfield 64, 3) := by decide +kernel
theorem dX10_paste_21 : decode cX10_paste 21 = .ok (.iload_n 1, 1) := by decide +kernel
theorem dX10_paste_22 : decode cX10_paste 22 = .ok (.iaload, 1) := by decide +kernel
theorem dX10_paste_23 : decode cX10_paste 23 = .ok (.iconst (-1), 1) := by decide +kernel
theorem dX10_paste_24 : decode cX10_paste 24 = .ok (.if_icmp .eq 13, 3) := by decide +kernel
theorem dX10_paste_27 : decode cX10_paste 27 = .ok (.aload_n 0, 1) := by decide +kernel
theorem dX10_paste_28 : decode cX10_paste 28 = .ok (.getfield 64, 3) := by decide +kernel
theorem dX10_paste_31 : decode cX10_paste 31 = .ok (.iload_n 3, 1) := by decide +kernel
theorem dX10_paste_32 : decode cX10_paste 32 = .ok (.iaload, 1) := by decide +kernel
theorem dX10_paste_33 : decode cX10_paste 33 = .ok (.iconst (-1), 1) := by decide +kernel
theorem dX10_paste_34 : decode cX10_paste 34 = .ok (.if_icmp .ne 6, 3) := by decide +kernel
theorem dX10_paste_37 : decode cX10_paste 37 = .ok (.bipush (-6), 2) := by decide +kernel
theorem dX10_paste_39 : decode cX10_paste 39 = .ok (.ireturn, 1) := by decide +kernel
theorem dX10_paste_40 : decode cX10_paste 40 = .ok (.aload_n 0, 1) := by decide +kernel
theorem dX10_paste_41 : decode cX10_paste 41 = .ok (.getfield 67, 3) := by decide +kernel
theorem dX10_paste_44 : decode cX10_paste 44 = .ok (.iload_n 1, 1) := by decide +kernel
theorem dX10_paste_45 : decode cX10_paste 45 = .ok (.iaload, 1) := by decide +kernel
theorem dX10_paste_46 : decode cX10_paste 46 = .ok (.aload_n 0, 1) := by decide +kernel
theorem dX10_paste_47 : decode cX10_paste 47 = .ok (.getfield 67, 3) := by decide +kernel
theorem dX10_paste_50 : decode cX10_paste 50 = .ok (.iload_n 3, 1) := by decide +kernel
theorem dX10_paste_51 : decode cX10_paste 51 = .ok (.iaload, 1) := by decide +kernel
theorem dX10_paste_52 : decode cX10_paste 52 = .ok (.if_icmp .eq 6, 3) := by decide +kernel
theorem dX10_paste_55 : decode cX10_paste 55 = .ok (.bipush (-8), 2) := by decide +kernel
theorem dX10_paste_57 : decode cX10_paste 57 = .ok (.ireturn, 1) := by decide +kernel
theorem dX10_paste_58 : decode cX10_paste 58 = .ok (.iload_n 2, 1) := by decide +kernel
theorem dX10_paste_59 : decode cX10_paste 59 = .ok (.ifCond .lt 48, 3) := by decide +kernel
theorem dX10_paste_62 : decode cX10_paste 62 = .ok (.iload 4, 2) := by decide +kernel
theorem dX10_paste_64 : decode cX10_paste 64 = .ok (.ifCond .lt 43, 3) := by decide +kernel
theorem dX10_paste_67 : decode cX10_paste 67 = .ok (.iload 5, 2) := by decide +kernel
theorem dX10_paste_69 : decode cX10_paste 69 = .ok (.ifCond .lt 38, 3) := by decide +kernel
theorem dX10_paste_72 : decode cX10_paste 72 = .ok (.iload_n 2, 1) := by decide +kernel
theorem dX10_paste_73 : decode cX10_paste 73 = .ok (.i2l, 1) := by decide +kernel
theorem dX10_paste_74 : decode cX10_paste 74 = .ok (.iload 5, 2) := by decide +kernel
theorem dX10_paste_76 : decode cX10_paste 76 = .ok (.i2l, 1) := by decide +kernel
theorem dX10_paste_77 : decode cX10_paste 77 = .ok (.ladd, 1) := by decide +kernel
theorem dX10_paste_78 : decode cX10_paste 78 = .ok (.aload_n 0, 1) := by decide +kernel
theorem dX10_paste_79 : decode cX10_paste 79 = .ok (.getfield 64, 3) := by decide +kernel
theorem dX10_paste_82 : decode cX10_paste 82 = .ok (.iload_n 1, 1) := by decide +kernel
theorem dX10_paste_83 : decode cX10_paste 83 = .ok (.iaload, 1) := by decide +kernel
theorem dX10_paste_84 : decode cX10_paste 84 = .ok (.i2l, 1) := by decide +kernel
theorem dX10_paste_85 : decode cX10_paste 85 = .ok (.lcmp, 1) := by decide +kernel
theorem dX10_paste_86 : decode cX10_paste 86 = .ok (.ifCond .gt 21, 3) := by decide +kernel
theorem dX10_paste_89 : decode cX10_paste 89 = .ok (.iload 4, 2) := by decide +kernel
theorem dX10_paste_91 : decode cX10_paste 91 = .ok (.i2l, 1) := by decide +kernel
theorem dX10_paste_92 : decode cX10_paste 92 = .ok (.iload 5, 2) := by decide +kernel
theorem dX10_paste_94 : decode cX10_paste 94 = .ok (.i2l, 1) := by decide +kernel
theorem dX10_paste_95 : decode cX10_paste 95 = .ok (.ladd, 1) := by decide +kernel
theorem dX10_paste_96 : decode cX10_paste 96 = .ok (.aload_n 0, 1) := by decide +kernel
theorem dX10_paste_97 : decode cX10_paste 97 = .ok (.getfield 64, 3) := by decide +kernel
theorem dX10_paste_100 : decode cX10_paste 100 = .ok (.iload_n 3, 1) := by decide +kernel
theorem dX10_paste_101 : decode cX10_paste 101 = .ok (.iaload, 1) := by decide +kernel
theorem dX10_paste_102 : decode cX10_paste 102 = .ok (.i2l, 1) := by decide +kernel
theorem dX10_paste_103 : decode cX10_paste 103 = .ok (.lcmp, 1) := by decide +kernel
theorem dX10_paste_104 : decode cX10_paste 104 = .ok (.ifCond .le 6, 3) := by decide +kernel
theorem dX10_paste_107 : decode cX10_paste 107 = .ok (.bipush (-7), 2) := by decide +kernel
theorem dX10_paste_109 : decode cX10_paste 109 = .ok (.ireturn, 1) := by decide +kernel
theorem dX10_paste_110 : decode cX10_paste 110 = .ok (.iconst 0, 1) := by decide +kernel
theorem dX10_paste_111 : decode cX10_paste 111 = .ok (.istore 6, 2) := by decide +kernel
theorem dX10_paste_113 : decode cX10_paste 113 = .ok (.iload 6, 2) := by decide +kernel
theorem dX10_paste_115 : decode cX10_paste 115 = .ok (.iload 5, 2) := by decide +kernel
theorem dX10_paste_117 : decode cX10_paste 117 = .ok (.if_icmp .ge 30, 3) := by decide +kernel
theorem dX10_paste_120 : decode cX10_paste 120 = .ok (.aload_n 0, 1) := by decide +kernel
theorem dX10_paste_121 : decode cX10_paste 121 = .ok (.getfield 74, 3) := by decide +kernel
theorem dX10_paste_124 : decode cX10_paste 124 = .ok (.iload 6, 2) := by decide +kernel
theorem dX10_paste_126 : decode cX10_paste 126 = .ok (.aload_n 0, 1) := by decide +kernel
theorem dX10_paste_127 : decode cX10_paste 127 = .ok (.getfield 70, 3) := by decide +kernel
theorem dX10_paste_130 : decode cX10_paste 130 = .ok (.bipush 60, 2) := by decide +kernel
theorem dX10_paste_132 : decode cX10_paste 132 = .ok (.iload_n 1, 1) := by decide +kernel
theorem dX10_paste_133 : decode cX10_paste 133 = .ok (.imul, 1) := by decide +kernel
theorem dX10_paste_134 : decode cX10_paste 134 = .ok (.iload_n 2, 1) := by decide +kernel
theorem dX10_paste_135 : decode cX10_paste 135 = .ok (.iadd, 1) := by decide +kernel
theorem dX10_paste_136 : decode cX10_paste 136 = .ok (.iload 6, 2) := by decide +kernel
theorem dX10_paste_138 : decode cX10_paste 138 = .ok (.iadd, 1) := by decide +kernel
theorem dX10_paste_139 : decode cX10_paste 139 = .ok (.laload, 1) := by decide +kernel
theorem dX10_paste_140 : decode cX10_paste 140 = .ok (.lastore, 1) := by decide +kernel
theorem dX10_paste_141 : decode cX10_paste 141 = .ok (.iinc 6 1, 3) := by decide +kernel
theorem dX10_paste_144 : decode cX10_paste 144 = .ok (.goto (-31), 3) := by decide +kernel
theorem dX10_paste_147 : decode cX10_paste 147 = .ok (.iconst 0, 1) := by decide +kernel
theorem dX10_paste_148 : decode cX10_paste 148 = .ok (.istore 6, 2) := by decide +kernel
theorem dX10_paste_150 : decode cX10_paste 150 = .ok (.iload 6, 2) := by decide +kernel
theorem dX10_paste_152 : decode cX10_paste 152 = .ok (.iload 5, 2) := by decide +kernel
theorem dX10_paste_154 : decode cX10_paste 154 = .ok (.if_icmp .ge 31, 3) := by decide +kernel
theorem dX10_paste_157 : decode cX10_paste 157 = .ok (.aload_n 0, 1) := by decide +kernel
theorem dX10_paste_158 : decode cX10_paste 158 = .ok (.getfield 70, 3) := by decide +kernel
theorem dX10_paste_161 : decode cX10_paste 161 = .ok (.bipush 60, 2) := by decide +kernel
theorem dX10_paste_163 : decode cX10_paste 163 = .ok (.iload_n 3, 1) := by decide +kernel
theorem dX10_paste_164 : decode cX10_paste 164 = .ok (.imul, 1) := by decide +kernel
theorem dX10_paste_165 : decode cX10_paste 165 = .ok (.iload 4, 2) := by decide +kernel
theorem dX10_paste_167 : decode cX10_paste 167 = .ok (.iadd, 1) := by decide +kernel
theorem dX10_paste_168 : decode cX10_paste 168 = .ok (.iload 6, 2) := by decide +kernel
theorem dX10_paste_170 : decode cX10_paste 170 = .ok (.iadd, 1) := by decide +kernel
theorem dX10_paste_171 : decode cX10_paste 171 = .ok (.aload_n 0, 1) := by decide +kernel
theorem dX10_paste_172 : decode cX10_paste 172 = .ok (.getfield 74, 3) := by decide +kernel
theorem dX10_paste_175 : decode cX10_paste 175 = .ok (.iload 6, 2) := by decide +kernel
theorem dX10_paste_177 : decode cX10_paste 177 = .ok (.laload, 1) := by decide +kernel
theorem dX10_paste_178 : decode cX10_paste 178 = .ok (.lastore, 1) := by decide +kernel
theorem dX10_paste_179 : decode cX10_paste 179 = .ok (.iinc 6 1, 3) := by decide +kernel
theorem dX10_paste_182 : decode cX10_paste 182 = .ok (.goto (-32), 3) := by decide +kernel
theorem dX10_paste_185 : decode cX10_paste 185 = .ok (.iconst 0, 1) := by decide +kernel
theorem dX10_paste_186 : decode cX10_paste 186 = .ok (.ireturn, 1) := by decide +kernel
theorem dJ6_bitCount_0f7a4_0 : decode cJ6_bitCount_0f7a4 0 = .ok (.iload_n 0, 1) := by decide +kernel
theorem dJ6_bitCount_0f7a4_1 : decode cJ6_bitCount_0f7a4 1 = .ok (.iload_n 0, 1) := by decide +kernel
theorem dJ6_bitCount_0f7a4_2 : decode cJ6_bitCount_0f7a4 2 = .ok (.iconst 1, 1) := by decide +kernel
theorem dJ6_bitCount_0f7a4_3 : decode cJ6_bitCount_0f7a4 3 = .ok (.iushr, 1) := by decide +kernel
theorem dJ6_bitCount_0f7a4_4 : decode cJ6_bitCount_0f7a4 4 = .ok (.ldc_w 265, 3) := by decide +kernel
theorem dJ6_bitCount_0f7a4_7 : decode cJ6_bitCount_0f7a4 7 = .ok (.iand, 1) := by decide +kernel
theorem dJ6_bitCount_0f7a4_8 : decode cJ6_bitCount_0f7a4 8 = .ok (.isub, 1) := by decide +kernel
theorem dJ6_bitCount_0f7a4_9 : decode cJ6_bitCount_0f7a4 9 = .ok (.istore_n 0, 1) := by decide +kernel
theorem dJ6_bitCount_0f7a4_10 : decode cJ6_bitCount_0f7a4 10 = .ok (.iload_n 0, 1) := by decide +kernel
theorem dJ6_bitCount_0f7a4_11 : decode cJ6_bitCount_0f7a4 11 = .ok (.ldc_w 266, 3) := by decide +kernel
theorem dJ6_bitCount_0f7a4_14 : decode cJ6_bitCount_0f7a4 14 = .ok (.iand, 1) := by decide +kernel
theorem dJ6_bitCount_0f7a4_15 : decode cJ6_bitCount_0f7a4 15 = .ok (.iload_n 0, 1) := by decide +kernel
theorem dJ6_bitCount_0f7a4_16 : decode cJ6_bitCount_0f7a4 16 = .ok (.iconst 2, 1) := by decide +kernel
theorem dJ6_bitCount_0f7a4_17 : decode cJ6_bitCount_0f7a4 17 = .ok (.iushr, 1) := by decide +kernel
theorem dJ6_bitCount_0f7a4_18 : decode cJ6_bitCount_0f7a4 18 = .ok (.ldc_w 266, 3) := by decide +kernel
theorem dJ6_bitCount_0f7a4_21 : decode cJ6_bitCount_0f7a4 21 = .ok (.iand, 1) := by decide +kernel
theorem dJ6_bitCount_0f7a4_22 : decode cJ6_bitCount_0f7a4 22 = .ok (.iadd, 1) := by decide +kernel
theorem dJ6_bitCount_0f7a4_23 : decode cJ6_bitCount_0f7a4 23 = .ok (.istore_n 0, 1) := by decide +kernel
theorem dJ6_bitCount_0f7a4_24 : decode cJ6_bitCount_0f7a4 24 = .ok (.iload_n 0, 1) := by decide +kernel
theorem dJ6_bitCount_0f7a4_25 : decode cJ6_bitCount_0f7a4 25 = .ok (.iload_n 0, 1) := by decide +kernel
theorem dJ6_bitCount_0f7a4_26 : decode cJ6_bitCount_0f7a4 26 = .ok (.iconst 4, 1) := by decide +kernel
theorem dJ6_bitCount_0f7a4_27 : decode cJ6_bitCount_0f7a4 27 = .ok (.iushr, 1) := by decide +kernel
theorem dJ6_bitCount_0f7a4_28 : decode cJ6_bitCount_0f7a4 28 = .ok (.iadd, 1) := by decide +kernel
theorem dJ6_bitCount_0f7a4_29 : decode cJ6_bitCount_0f7a4 29 = .ok (.ldc_w 267, 3) := by decide +kernel
theorem dJ6_bitCount_0f7a4_32 : decode cJ6_bitCount_0f7a4 32 = .ok (.iand, 1) := by decide +kernel
theorem dJ6_bitCount_0f7a4_33 : decode cJ6_bitCount_0f7a4 33 = .ok (.istore_n 0, 1) := by decide +kernel
theorem dJ6_bitCount_0f7a4_34 : decode cJ6_bitCount_0f7a4 34 = .ok (.iload_n 0, 1) := by decide +kernel
theorem dJ6_bitCount_0f7a4_35 : decode cJ6_bitCount_0f7a4 35 = .ok (.iload_n 0, 1) := by decide +kernel
theorem dJ6_bitCount_0f7a4_36 : decode cJ6_bitCount_0f7a4 36 = .ok (.bipush 8, 2) := by decide +kernel
theorem dJ6_bitCount_0f7a4_38 : decode cJ6_bitCount_0f7a4 38 = .ok (.iushr, 1) := by decide +kernel
theorem dJ6_bitCount_0f7a4_39 : decode cJ6_bitCount_0f7a4 39 = .ok (.iadd, 1) := by decide +kernel
theorem dJ6_bitCount_0f7a4_40 : decode cJ6_bitCount_0f7a4 40 = .ok (.istore_n 0, 1) := by decide +kernel
theorem dJ6_bitCount_0f7a4_41 : decode cJ6_bitCount_0f7a4 41 = .ok (.iload_n 0, 1) := by decide +kernel
theorem dJ6_bitCount_0f7a4_42 : decode cJ6_bitCount_0f7a4 42 = .ok (.iload_n 0, 1) := by decide +kernel
theorem dJ6_bitCount_0f7a4_43 : decode cJ6_bitCount_0f7a4 43 = .ok (.bipush 16, 2) := by decide +kernel
theorem dJ6_bitCount_0f7a4_45 : decode cJ6_bitCount_0f7a4 45 = .ok (.iushr, 1) := by decide +kernel
theorem dJ6_bitCount_0f7a4_46 : decode cJ6_bitCount_0f7a4 46 = .ok (.iadd, 1) := by decide +kernel
theorem dJ6_bitCount_0f7a4_47 : decode cJ6_bitCount_0f7a4 47 = .ok (.istore_n 0, 1) := by decide +kernel
theorem dJ6_bitCount_0f7a4_48 : decode cJ6_bitCount_0f7a4 48 = .ok (.iload_n 0, 1) := by decide +kernel
theorem dJ6_bitCount_0f7a4_49 : decode cJ6_bitCount_0f7a4 49 = .ok (.bipush 63, 2) := by decide +kernel
theorem dJ6_bitCount_0f7a4_51 : decode cJ6_bitCount_0f7a4 51 = .ok (.iand, 1) := by decide +kernel
theorem dJ6_bitCount_0f7a4_52 : decode cJ6_bitCount_0f7a4 52 = .ok (.ireturn, 1) := by decide +kernel
theorem dJ7_fill_d0a16_0 : decode cJ7_fill_d0a16 0 = .ok (.iconst 0, 1) := by decide +kernel
theorem dJ7_fill_d0a16_1 : decode cJ7_fill_d0a16 1 = .ok (.istore_n 3, 1) := by decide +kernel
theorem dJ7_fill_d0a16_2 : decode cJ7_fill_d0a16 2 = .ok (.aload_n 0, 1) := by decide +kernel
theorem dJ7_fill_d0a16_3 : decode cJ7_fill_d0a16 3 = .ok (.arraylength, 1) := by decide +kernel
theorem dJ7_fill_d0a16_4 : decode cJ7_fill_d0a16 4 = .ok (.istore 4, 2) := by decide +kernel
theorem dJ7_fill_d0a16_6 : decode cJ7_fill_d0a16 6 = .ok (.iload_n 3, 1) := by decide +kernel
theorem dJ7_fill_d0a16_7 : decode cJ7_fill_d0a16 7 = .ok (.iload 4, 2) := by decide +kernel
theorem dJ7_fill_d0a16_9 : decode cJ7_fill_d0a16 9 = .ok (.if_icmp .ge 13, 3) := by decide +kernel
theorem dJ7_fill_d0a16_12 : decode cJ7_fill_d0a16 12 = .ok (.aload_n 0, 1) := by decide +kernel
theorem dJ7_fill_d0a16_13 : decode cJ7_fill_d0a16 13 = .ok (.iload_n 3, 1) := by decide +kernel
theorem dJ7_fill_d0a16_14 : decode cJ7_fill_d0a16 14 = .ok (.lload_n 1, 1) := by decide +kernel
theorem dJ7_fill_d0a16_15 : decode cJ7_fill_d0a16 15 = .ok (.lastore, 1) := by decide +kernel
theorem dJ7_fill_d0a16_16 : decode cJ7_fill_d0a16 16 = .ok (.iinc 3 1, 3) := by decide +kernel
theorem dJ7_fill_d0a16_19 : decode cJ7_fill_d0a16 19 = .ok (.goto (-13), 3) := by decide +kernel
theorem dJ7_fill_d0a16_22 : decode cJ7_fill_d0a16 22 = .ok (.return_, 1) := by decide +kernel
theorem dJ7_fill_53178_0 : decode cJ7_fill_53178 0 = .ok (.iconst 0, 1) := by decide +kernel
theorem dJ7_fill_53178_1 : decode cJ7_fill_53178 1 = .ok (.istore_n 2, 1) := by decide +kernel
theorem dJ7_fill_53178_2 : decode cJ7_fill_53178 2 = .ok (.aload_n 0, 1) := by decide +kernel
theorem dJ7_fill_53178_3 : decode cJ7_fill_53178 3 = .ok (.arraylength, 1) := by decide +kernel
theorem dJ7_fill_53178_4 : decode cJ7_fill_53178 4 = .ok (.istore_n 3, 1) := by decide +kernel
theorem dJ7_fill_53178_5 : decode cJ7_fill_53178 5 = .ok (.iload_n 2, 1) := by decide +kernel
theorem dJ7_fill_53178_6 : decode cJ7_fill_53178 6 = .ok (.iload_n 3, 1) := by decide +kernel
theorem dJ7_fill_53178_7 : decode cJ7_fill_53178 7 = .ok (.if_icmp .ge 13, 3) := by decide +kernel
theorem dJ7_fill_53178_10 : decode cJ7_fill_53178 10 = .ok (.aload_n 0, 1) := by decide +kernel
theorem dJ7_fill_53178_11 : decode cJ7_fill_53178 11 = .ok (.iload_n 2, 1) := by decide +kernel
theorem dJ7_fill_53178_12 : decode cJ7_fill_53178 12 = .ok (.iload_n 1, 1) := by decide +kernel
theorem dJ7_fill_53178_13 : decode cJ7_fill_53178 13 = .ok (.iastore, 1) := by decide +kernel
theorem dJ7_fill_53178_14 : decode cJ7_fill_53178 14 = .ok (.iinc 2 1, 3) := by decide +kernel
theorem dJ7_fill_53178_17 : decode cJ7_fill_53178 17 = .ok (.goto (-12), 3) := by decide +kernel
theorem dJ7_fill_53178_20 : decode cJ7_fill_53178 20 = .ok (.return_, 1) := by decide +kernel
