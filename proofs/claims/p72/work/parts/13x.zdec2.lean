theorem dX9_hang_20 : decode cX9_hang 20 = .ok (.bipush 9, 2) := by decide +kernel
theorem dX9_hang_22 : decode cX9_hang 22 = .ok (.if_icmp .le 6, 3) := by decide +kernel
theorem dX9_hang_25 : decode cX9_hang 25 = .ok (.bipush (-2), 2) := by decide +kernel
theorem dX9_hang_27 : decode cX9_hang 27 = .ok (.ireturn, 1) := by decide +kernel
theorem dX9_hang_28 : decode cX9_hang 28 = .ok (.aload_n 0, 1) := by decide +kernel
theorem dX9_hang_29 : decode cX9_hang 29 = .ok (.getfield 20, 3) := by decide +kernel
theorem dX9_hang_32 : decode cX9_hang 32 = .ok (.getfield 400, 3) := by decide +kernel
theorem dX9_hang_35 : decode cX9_hang 35 = .ok (.getfield 200, 3) := by decide +kernel
theorem dX9_hang_38 : decode cX9_hang 38 = .ok (.ifCond .le 6, 3) := by decide +kernel
theorem dX9_hang_41 : decode cX9_hang 41 = .ok (.bipush (-5), 2) := by decide +kernel
theorem dX9_hang_43 : decode cX9_hang 43 = .ok (.ireturn, 1) := by decide +kernel
theorem dX9_hang_44 : decode cX9_hang 44 = .ok (.aload_n 0, 1) := by decide +kernel
theorem dX9_hang_45 : decode cX9_hang 45 = .ok (.getfield 20, 3) := by decide +kernel
theorem dX9_hang_48 : decode cX9_hang 48 = .ok (.getfield 119, 3) := by decide +kernel
theorem dX9_hang_51 : decode cX9_hang 51 = .ok (.iload_n 1, 1) := by decide +kernel
theorem dX9_hang_52 : decode cX9_hang 52 = .ok (.iconst 2, 1) := by decide +kernel
theorem dX9_hang_53 : decode cX9_hang 53 = .ok (.invokevirtual 129, 3) := by decide +kernel
theorem dX9_hang_56 : decode cX9_hang 56 = .ok (.istore_n 3, 1) := by decide +kernel
theorem dX9_hang_57 : decode cX9_hang 57 = .ok (.aload_n 0, 1) := by decide +kernel
theorem dX9_hang_58 : decode cX9_hang 58 = .ok (.getfield 20, 3) := by decide +kernel
theorem dX9_hang_61 : decode cX9_hang 61 = .ok (.getfield 119, 3) := by decide +kernel
theorem dX9_hang_64 : decode cX9_hang 64 = .ok (.iload_n 1, 1) := by decide +kernel
theorem dX9_hang_65 : decode cX9_hang 65 = .ok (.iconst 2, 1) := by decide +kernel
theorem dX9_hang_66 : decode cX9_hang 66 = .ok (.iload_n 2, 1) := by decide +kernel
theorem dX9_hang_67 : decode cX9_hang 67 = .ok (.invokevirtual 417, 3) := by decide +kernel
theorem dX9_hang_70 : decode cX9_hang 70 = .ok (.aload_n 0, 1) := by decide +kernel
theorem dX9_hang_71 : decode cX9_hang 71 = .ok (.invokevirtual 107, 3) := by decide +kernel
theorem dX9_hang_74 : decode cX9_hang 74 = .ok (.iload_n 3, 1) := by decide +kernel
theorem dX9_hang_75 : decode cX9_hang 75 = .ok (.ireturn, 1) := by decide +kernel
theorem dX9_count_0 : decode cX9_count 0 = .ok (.iload_n 1, 1) := by decide +kernel
theorem dX9_count_1 : decode cX9_count 1 = .ok (.tableswitch 168 0 11 #[63, 71, 79, 87, 95, 106, 117, 128, 139, 150, 158, 163], 63) := by decide +kernel
theorem dX9_count_64 : decode cX9_count 64 = .ok (.aload_n 0, 1) := by decide +kernel
theorem dX9_count_65 : decode cX9_count 65 = .ok (.getfield 20, 3) := by decide +kernel
theorem dX9_count_68 : decode cX9_count 68 = .ok (.getfield 208, 3) := by decide +kernel
theorem dX9_count_71 : decode cX9_count 71 = .ok (.ireturn, 1) := by decide +kernel
theorem dX9_count_72 : decode cX9_count 72 = .ok (.aload_n 0, 1) := by decide +kernel
theorem dX9_count_73 : decode cX9_count 73 = .ok (.getfield 20, 3) := by decide +kernel
theorem dX9_count_76 : decode cX9_count 76 = .ok (.getfield 169, 3) := by decide +kernel
theorem dX9_count_79 : decode cX9_count 79 = .ok (.ireturn, 1) := by decide +kernel
theorem dX9_count_80 : decode cX9_count 80 = .ok (.aload_n 0, 1) := by decide +kernel
theorem dX9_count_81 : decode cX9_count 81 = .ok (.getfield 20, 3) := by decide +kernel
theorem dX9_count_84 : decode cX9_count 84 = .ok (.getfield 214, 3) := by decide +kernel
theorem dX9_count_87 : decode cX9_count 87 = .ok (.ireturn, 1) := by decide +kernel
theorem dX9_count_88 : decode cX9_count 88 = .ok (.aload_n 0, 1) := by decide +kernel
theorem dX9_count_89 : decode cX9_count 89 = .ok (.getfield 20, 3) := by decide +kernel
theorem dX9_count_92 : decode cX9_count 92 = .ok (.getfield 364, 3) := by decide +kernel
theorem dX9_count_95 : decode cX9_count 95 = .ok (.ireturn, 1) := by decide +kernel
theorem dX9_count_96 : decode cX9_count 96 = .ok (.aload_n 0, 1) := by decide +kernel
theorem dX9_count_97 : decode cX9_count 97 = .ok (.getfield 20, 3) := by decide +kernel
theorem dX9_count_100 : decode cX9_count 100 = .ok (.getfield 119, 3) := by decide +kernel
theorem dX9_count_103 : decode cX9_count 103 = .ok (.getfield 200, 3) := by decide +kernel
theorem dX9_count_106 : decode cX9_count 106 = .ok (.ireturn, 1) := by decide +kernel
theorem dX9_count_107 : decode cX9_count 107 = .ok (.aload_n 0, 1) := by decide +kernel
theorem dX9_count_108 : decode cX9_count 108 = .ok (.getfield 20, 3) := by decide +kernel
theorem dX9_count_111 : decode cX9_count 111 = .ok (.getfield 133, 3) := by decide +kernel
theorem dX9_count_114 : decode cX9_count 114 = .ok (.getfield 200, 3) := by decide +kernel
theorem dX9_count_117 : decode cX9_count 117 = .ok (.ireturn, 1) := by decide +kernel
theorem dX9_count_118 : decode cX9_count 118 = .ok (.aload_n 0, 1) := by decide +kernel
theorem dX9_count_119 : decode cX9_count 119 = .ok (.getfield 20, 3) := by decide +kernel
theorem dX9_count_122 : decode cX9_count 122 = .ok (.getfield 136, 3) := by decide +kernel
theorem dX9_count_125 : decode cX9_count 125 = .ok (.getfield 200, 3) := by decide +kernel
theorem dX9_count_128 : decode cX9_count 128 = .ok (.ireturn, 1) := by decide +kernel
theorem dX9_count_129 : decode cX9_count 129 = .ok (.aload_n 0, 1) := by decide +kernel
theorem dX9_count_130 : decode cX9_count 130 = .ok (.getfield 20, 3) := by decide +kernel
theorem dX9_count_133 : decode cX9_count 133 = .ok (.getfield 420, 3) := by decide +kernel
theorem dX9_count_136 : decode cX9_count 136 = .ok (.getfield 200, 3) := by decide +kernel
theorem dX9_count_139 : decode cX9_count 139 = .ok (.ireturn, 1) := by decide +kernel
theorem dX9_count_140 : decode cX9_count 140 = .ok (.aload_n 0, 1) := by decide +kernel
theorem dX9_count_141 : decode cX9_count 141 = .ok (.getfield 20, 3) := by decide +kernel
theorem dX9_count_144 : decode cX9_count 144 = .ok (.getfield 400, 3) := by decide +kernel
theorem dX9_count_147 : decode cX9_count 147 = .ok (.getfield 200, 3) := by decide +kernel
theorem dX9_count_150 : decode cX9_count 150 = .ok (.ireturn, 1) := by decide +kernel
theorem dX9_count_151 : decode cX9_count 151 = .ok (.aload_n 0, 1) := by decide +kernel
theorem dX9_count_152 : decode cX9_count 152 = .ok (.getfield 20, 3) := by decide +kernel
theorem dX9_count_155 : decode cX9_count 155 = .ok (.getfield 110, 3) := by decide +kernel
theorem dX9_count_158 : decode cX9_count 158 = .ok (.ireturn, 1) := by decide +kernel
theorem dX9_count_159 : decode cX9_count 159 = .ok (.aload_n 0, 1) := by decide +kernel
theorem dX9_count_160 : decode cX9_count 160 = .ok (.getfield 13, 3) := by decide +kernel
theorem dX9_count_163 : decode cX9_count 163 = .ok (.ireturn, 1) := by decide +kernel
theorem dX9_count_164 : decode cX9_count 164 = .ok (.aload_n 0, 1) := by decide +kernel
theorem dX9_count_165 : decode cX9_count 165 = .ok (.invokevirtual 423, 3) := by decide +kernel
theorem dX9_count_168 : decode cX9_count 168 = .ok (.ireturn, 1) := by decide +kernel
theorem dX9_count_169 : decode cX9_count 169 = .ok (.iconst (-1), 1) := by decide +kernel
theorem dX9_count_170 : decode cX9_count 170 = .ok (.ireturn, 1) := by decide +kernel
theorem dX9_slotsWithRow_0 : decode cX9_slotsWithRow 0 = .ok (.iconst 0, 1) := by decide +kernel
theorem dX9_slotsWithRow_1 : decode cX9_slotsWithRow 1 = .ok (.istore_n 1, 1) := by decide +kernel
theorem dX9_slotsWithRow_2 : decode cX9_slotsWithRow 2 = .ok (.iconst 0, 1) := by decide +kernel
theorem dX9_slotsWithRow_3 : decode cX9_slotsWithRow 3 = .ok (.istore_n 2, 1) := by decide +kernel
theorem dX9_slotsWithRow_4 : decode cX9_slotsWithRow 4 = .ok (.iload_n 2, 1) := by decide +kernel
theorem dX9_slotsWithRow_5 : decode cX9_slotsWithRow 5 = .ok (.iconst 4, 1) := by decide +kernel
theorem dX9_slotsWithRow_6 : decode cX9_slotsWithRow 6 = .ok (.if_icmp .ge 24, 3) := by decide +kernel
theorem dX9_slotsWithRow_9 : decode cX9_slotsWithRow 9 = .ok (.aload_n 0, 1) := by decide +kernel
theorem dX9_slotsWithRow_10 : decode cX9_slotsWithRow 10 = .ok (.getfield 46, 3) := by decide +kernel
theorem dX9_slotsWithRow_13 : decode cX9_slotsWithRow 13 = .ok (.iload_n 2, 1) := by decide +kernel
theorem dX9_slotsWithRow_14 : decode cX9_slotsWithRow 14 = .ok (.aaload, 1) := by decide +kernel
theorem dX9_slotsWithRow_15 : decode cX9_slotsWithRow 15 = .ok (.invokevirtual 279, 3) := by decide +kernel
theorem dX9_slotsWithRow_18 : decode cX9_slotsWithRow 18 = .ok (.ifCond .ne 6, 3) := by decide +kernel
theorem dX9_slotsWithRow_21 : decode cX9_slotsWithRow 21 = .ok (.iinc 1 1, 3) := by decide +kernel
theorem dX9_slotsWithRow_24 : decode cX9_slotsWithRow 24 = .ok (.iinc 2 1, 3) := by decide +kernel
theorem dX9_slotsWithRow_27 : decode cX9_slotsWithRow 27 = .ok (.goto (-23), 3) := by decide +kernel
theorem dX9_slotsWithRow_30 : decode cX9_slotsWithRow 30 = .ok (.iload_n 1, 1) := by decide +kernel
theorem dX9_slotsWithRow_31 : decode cX9_slotsWithRow 31 = .ok (.ireturn, 1) := by decide +kernel
theorem dX9_image_0 : decode cX9_image 0 = .ok (.iload_n 1, 1) := by decide +kernel
theorem dX9_image_1 : decode cX9_image 1 = .ok (.ifCond .lt 8, 3) := by decide +kernel
theorem dX9_image_4 : decode cX9_image 4 = .ok (.iload_n 1, 1) := by decide +kernel
theorem dX9_image_5 : decode cX9_image 5 = .ok (.iconst 3, 1) := by decide +kernel
theorem dX9_image_6 : decode cX9_image 6 = .ok (.if_icmp .lt 6, 3) := by decide +kernel
theorem dX9_image_9 : decode cX9_image 9 = .ok (.bipush (-2), 2) := by decide +kernel
theorem dX9_image_11 : decode cX9_image 11 = .ok (.ireturn, 1) := by decide +kernel
theorem dX9_image_12 : decode cX9_image 12 = .ok (.aload_n 0, 1) := by decide +kernel
theorem dX9_image_13 : decode cX9_image 13 = .ok (.getfield 36, 3) := by decide +kernel
theorem dX9_image_16 : decode cX9_image 16 = .ok (.iload_n 1, 1) := by decide +kernel
theorem dX9_image_17 : decode cX9_image 17 = .ok (.aaload, 1) := by decide +kernel
theorem dX9_image_18 : decode cX9_image 18 = .ok (.aload_n 0, 1) := by decide +kernel
theorem dX9_image_19 : decode cX9_image 19 = .ok (.getfield 20, 3) := by decide +kernel
theorem dX9_image_22 : decode cX9_image 22 = .ok (.invokevirtual 103, 3) := by decide +kernel
theorem dX9_image_25 : decode cX9_image 25 = .ok (.aload_n 0, 1) := by decide +kernel
theorem dX9_image_26 : decode cX9_image 26 = .ok (.getfield 40, 3) := by decide +kernel
theorem dX9_image_29 : decode cX9_image 29 = .ok (.iload_n 1, 1) := by decide +kernel
theorem dX9_image_30 : decode cX9_image 30 = .ok (.iconst 1, 1) := by decide +kernel
theorem dX9_image_31 : decode cX9_image 31 = .ok (.bastore, 1) := by decide +kernel
theorem dX9_image_32 : decode cX9_image 32 = .ok (.iconst 0, 1) := by decide +kernel
theorem dX9_image_33 : decode cX9_image 33 = .ok (.ireturn, 1) := by decide +kernel
theorem dX9_back_0 : decode cX9_back 0 = .ok (.iload_n 1, 1) := by decide +kernel
theorem dX9_back_1 : decode cX9_back 1 = .ok (.ifCond .lt 8, 3) := by decide +kernel
theorem dX9_back_4 : decode cX9_back 4 = .ok (.iload_n 1, 1) := by decide +kernel
theorem dX9_back_5 : decode cX9_back 5 = .ok (.iconst 3, 1) := by decide +kernel
theorem dX9_back_6 : decode cX9_back 6 = .ok (.if_icmp .lt 6, 3) := by decide +kernel
theorem dX9_back_9 : decode cX9_back 9 = .ok (.bipush (-2), 2) := by decide +kernel
theorem dX9_back_11 : decode cX9_back 11 = .ok (.ireturn, 1) := by decide +kernel
theorem dX9_back_12 : decode cX9_back 12 = .ok (.aload_n 0, 1) := by decide +kernel
theorem dX9_back_13 : decode cX9_back 13 = .ok (.getfield 40, 3) := by decide +kernel
theorem dX9_back_16 : decode cX9_back 16 = .ok (.iload_n 1, 1) := by decide +kernel
theorem dX9_back_17 : decode cX9_back 17 = .ok (.baload, 1) := by decide +kernel
theorem dX9_back_18 : decode cX9_back 18 = .ok (.ifCond .ne 6, 3) := by decide +kernel
theorem dX9_back_21 : decode cX9_back 21 = .ok (.bipush (-6), 2) := by decide +kernel
theorem dX9_back_23 : decode cX9_back 23 = .ok (.ireturn, 1) := by decide +kernel
theorem dX9_back_24 : decode cX9_back 24 = .ok (.aload_n 0, 1) := by decide +kernel
theorem dX9_back_25 : decode cX9_back 25 = .ok (.getfield 20, 3) := by decide +kernel
theorem dX9_back_28 : decode cX9_back 28 = .ok (.aload_n 0, 1) := by decide +kernel
theorem dX9_back_29 : decode cX9_back 29 = .ok (.getfield 36, 3) := by decide +kernel
theorem dX9_back_32 : decode cX9_back 32 = .ok (.iload_n 1, 1) := by decide +kernel
theorem dX9_back_33 : decode cX9_back 33 = .ok (.aaload, 1) := by decide +kernel
theorem dX9_back_34 : decode cX9_back 34 = .ok (.invokevirtual 103, 3) := by decide +kernel
theorem dX9_back_37 : decode cX9_back 37 = .ok (.aload_n 0, 1) := by decide +kernel
theorem dX9_back_38 : decode cX9_back 38 = .ok (.invokevirtual 107, 3) := by decide +kernel
theorem dX9_back_41 : decode cX9_back 41 = .ok (.iconst 0, 1) := by decide +kernel
theorem dX9_back_42 : decode cX9_back 42 = .ok (.ireturn, 1) := by decide +kernel
theorem dX9_row_0 : decode cX9_row 0 = .ok (.iload_n 1, 1) := by decide +kernel
theorem dX9_row_1 : decode cX9_row 1 = .ok (.invokestatic 276, 3) := by decide +kernel
theorem dX9_row_4 : decode cX9_row 4 = .ok (.ifCond .eq 18, 3) := by decide +kernel
theorem dX9_row_7 : decode cX9_row 7 = .ok (.iload_n 2, 1) := by decide +kernel
theorem dX9_row_8 : decode cX9_row 8 = .ok (.ifCond .lt 14, 3) := by decide +kernel
theorem dX9_row_11 : decode cX9_row 11 = .ok (.iload_n 2, 1) := by decide +kernel
theorem dX9_row_12 : decode cX9_row 12 = .ok (.iconst 3, 1) := by decide +kernel
theorem dX9_row_13 : decode cX9_row 13 = .ok (.if_icmp .gt 9, 3) := by decide +kernel
theorem dX9_row_16 : decode cX9_row 16 = .ok (.iload_n 3, 1) := by decide +kernel
theorem dX9_row_17 : decode cX9_row 17 = .ok (.bipush 60, 2) := by decide +kernel
theorem dX9_row_19 : decode cX9_row 19 = .ok (.if_icmp .le 6, 3) := by decide +kernel
theorem dX9_row_22 : decode cX9_row 22 = .ok (.bipush (-2), 2) := by decide +kernel
theorem dX9_row_24 : decode cX9_row 24 = .ok (.ireturn, 1) := by decide +kernel
theorem dX9_row_25 : decode cX9_row 25 = .ok (.iload_n 3, 1) := by decide +kernel
theorem dX9_row_26 : decode cX9_row 26 = .ok (.ifCond .ge 6, 3) := by decide +kernel
theorem dX9_row_29 : decode cX9_row 29 = .ok (.bipush (-3), 2) := by decide +kernel
theorem dX9_row_31 : decode cX9_row 31 = .ok (.ireturn, 1) := by decide +kernel
theorem dX9_row_32 : decode cX9_row 32 = .ok (.aload_n 0, 1) := by decide +kernel
theorem dX9_row_33 : decode cX9_row 33 = .ok (.getfield 46, 3) := by decide +kernel
theorem dX9_row_36 : decode cX9_row 36 = .ok (.iload_n 1, 1) := by decide +kernel
theorem dX9_row_37 : decode cX9_row 37 = .ok (.aaload, 1) := by decide +kernel
theorem dX9_row_38 : decode cX9_row 38 = .ok (.iload_n 2, 1) := by decide +kernel
theorem dX9_row_39 : decode cX9_row 39 = .ok (.iload_n 3, 1) := by decide +kernel
theorem dX9_row_40 : decode cX9_row 40 = .ok (.invokevirtual 426, 3) := by decide +kernel
theorem dX9_row_43 : decode cX9_row 43 = .ok (.iconst 0, 1) := by decide +kernel
theorem dX9_row_44 : decode cX9_row 44 = .ok (.ireturn, 1) := by decide +kernel
theorem dX9_write_0 : decode cX9_write 0 = .ok (.iload_n 1, 1) := by decide +kernel
theorem dX9_write_1 : decode cX9_write 1 = .ok (.invokestatic 276, 3) := by decide +kernel
theorem dX9_write_4 : decode cX9_write 4 = .ok (.ifCond .ne 6, 3) := by decide +kernel
theorem dX9_write_7 : decode cX9_write 7 = .ok (.bipush (-2), 2) := by decide +kernel
theorem dX9_write_9 : decode cX9_write 9 = .ok (.ireturn, 1) := by decide +kernel
theorem dX9_write_10 : decode cX9_write 10 = .ok (.aload_n 0, 1) := by decide +kernel
theorem dX9_write_11 : decode cX9_write 11 = .ok (.getfield 46, 3) := by decide +kernel
theorem dX9_write_14 : decode cX9_write 14 = .ok (.iload_n 1, 1) := by decide +kernel
theorem dX9_write_15 : decode cX9_write 15 = .ok (.aaload, 1) := by decide +kernel
theorem dX9_write_16 : decode cX9_write 16 = .ok (.invokevirtual 279, 3) := by decide +kernel
theorem dX9_write_19 : decode cX9_write 19 = .ok (.ifCond .eq 6, 3) := by decide +kernel
theorem dX9_write_22 : decode cX9_write 22 = .ok (.bipush (-6), 2) := by decide +kernel
theorem dX9_write_24 : decode cX9_write 24 = .ok (.ireturn, 1) := by decide +kernel
theorem dX9_write_25 : decode cX9_write 25 = .ok (.iload_n 2, 1) := by decide +kernel
theorem dX9_write_26 : decode cX9_write 26 = .ok (.ifCond .lt 16, 3) := by decide +kernel
theorem dX9_write_29 : decode cX9_write 29 = .ok (.iload_n 2, 1) := by decide +kernel
theorem dX9_write_30 : decode cX9_write 30 = .ok (.aload_n 0, 1) := by decide +kernel
theorem dX9_write_31 : decode cX9_write 31 = .ok (.getfield 46, 3) := by decide +kernel
theorem dX9_write_34 : decode cX9_write 34 = .ok (.iload_n 1, 1) := by decide +kernel
theorem dX9_write_35 : decode cX9_write 35 = .ok (.aaload, 1) := by decide +kernel
theorem dX9_write_36 : decode cX9_write 36 = .ok (.getfield 282, 3) := by decide +kernel
theorem dX9_write_39 : decode cX9_write 39 = .ok (.if_icmp .lt 6, 3) := by decide +kernel
theorem dX9_write_42 : decode cX9_write 42 = .ok (.bipush (-7), 2) := by decide +kernel
theorem dX9_write_44 : decode cX9_write 44 = .ok (.ireturn, 1) := by decide +kernel
theorem dX9_write_45 : decode cX9_write 45 = .ok (.aload_n 0, 1) := by decide +kernel
theorem dX9_write_46 : decode cX9_write 46 = .ok (.getfield 46, 3) := by decide +kernel
theorem dX9_write_49 : decode cX9_write 49 = .ok (.iload_n 1, 1) := by decide +kernel
theorem dX9_write_50 : decode cX9_write 50 = .ok (.aaload, 1) := by decide +kernel
theorem dX9_write_51 : decode cX9_write 51 = .ok (.iload_n 2, 1) := by decide +kernel
theorem dX9_write_52 : decode cX9_write 52 = .ok (.lload_n 3, 1) := by decide +kernel
theorem dX9_write_53 : decode cX9_write 53 = .ok (.invokevirtual 429, 3) := by decide +kernel
theorem dX9_write_56 : decode cX9_write 56 = .ok (.iconst 0, 1) := by decide +kernel
theorem dX9_write_57 : decode cX9_write 57 = .ok (.ireturn, 1) := by decide +kernel
theorem dX9_paste_0 : decode cX9_paste 0 = .ok (.iload_n 1, 1) := by decide +kernel
theorem dX9_paste_1 : decode cX9_paste 1 = .ok (.invokestatic 276, 3) := by decide +kernel
theorem dX9_paste_4 : decode cX9_paste 4 = .ok (.ifCond .eq 10, 3) := by decide +kernel
theorem dX9_paste_7 : decode cX9_paste 7 = .ok (.iload_n 3, 1) := by decide +kernel
theorem dX9_paste_8 : decode cX9_paste 8 = .ok (.invokestatic 276, 3) := by decide +kernel
theorem dX9_paste_11 : decode cX9_paste 11 = .ok (.ifCond .ne 6, 3) := by decide +kernel
theorem dX9_paste_14 : decode cX9_paste 14 = .ok (.bipush (-2), 2) := by decide +kernel
theorem dX9_paste_16 : decode cX9_paste 16 = .ok (.ireturn, 1) := by decide +kernel
theorem dX9_paste_17 : decode cX9_paste 17 = .ok (.aload_n 0, 1) := by decide +kernel
theorem dX9_paste_18 : decode cX9_paste 18 = .ok (.getfield 46, 3) := by decide +kernel
theorem dX9_paste_21 : decode cX9_paste 21 = .ok (.iload_n 1, 1) := by decide +kernel
theorem dX9_paste_22 : decode cX9_paste 22 = .ok (.aaload, 1) := by decide +kernel
theorem dX9_paste_23 : decode cX9_paste 23 = .ok (.astore 6, 2) := by decide +kernel
theorem dX9_paste_25 : decode cX9_paste 25 = .ok (.aload_n 0, 1) := by decide +kernel
theorem dX9_paste_26 : decode cX9_paste 26 = .ok (.getfield 46, 3) := by decide +kernel
theorem dX9_paste_29 : decode cX9_paste 29 = .ok (.iload_n 3, 1) := by decide +kernel
theorem dX9_paste_30 : decode cX9_paste 30 = .ok (.aaload, 1) := by decide +kernel
theorem dX9_paste_31 : decode cX9_paste 31 = .ok (.astore 7, 2) := by decide +kernel
theorem dX9_paste_33 : decode cX9_paste 33 = .ok (.aload 6, 2) := by decide +kernel
theorem dX9_paste_35 : decode cX9_paste 35 = .ok (.invokevirtual 279, 3) := by decide +kernel
theorem dX9_paste_38 : decode cX9_paste 38 = .ok (.ifCond .ne 11, 3) := by decide +kernel
theorem dX9_paste_41 : decode cX9_paste 41 = .ok (.aload 7, 2) := by decide +kernel
theorem dX9_paste_43 : decode cX9_paste 43 = .ok (.invokevirtual 279, 3) := by decide +kernel
theorem dX9_paste_46 : decode cX9_paste 46 = .ok (.ifCond .eq 6, 3) := by decide +kernel
theorem dX9_paste_49 : decode cX9_paste 49 = .ok (.bipush (-6), 2) := by decide +kernel
theorem dX9_paste_51 : decode cX9_paste 51 = .ok (.ireturn, 1) := by decide +kernel
theorem dX9_paste_52 : decode cX9_paste 52 = .ok (.aload 6, 2) := by decide +kernel
theorem dX9_paste_54 : decode cX9_paste 54 = .ok (.getfield 432, 3) := by decide +kernel
theorem dX9_paste_57 : decode cX9_paste 57 = .ok (.aload 7, 2) := by decide +kernel
theorem dX9_paste_59 : decode cX9_paste 59 = .ok (.getfield 432, 3) := by decide +kernel
theorem dX9_paste_62 : decode cX9_paste 62 = .ok (.if_icmp .eq 6, 3) := by decide +kernel
theorem dX9_paste_65 : decode cX9_paste 65 = .ok (.bipush (-8), 2) := by decide +kernel
theorem dX9_paste_67 : decode cX9_paste 67 = .ok (.ireturn, 1) := by decide +kernel
theorem dX9_paste_68 : decode cX9_paste 68 = .ok (.aload 6, 2) := by decide +kernel
theorem dX9_paste_70 : decode cX9_paste 70 = .ok (.iload_n 2, 1) := by decide +kernel
theorem dX9_paste_71 : decode cX9_paste 71 = .ok (.iload 5, 2) := by decide +kernel
theorem dX9_paste_73 : decode cX9_paste 73 = .ok (.invokevirtual 435, 3) := by decide +kernel
theorem dX9_paste_76 : decode cX9_paste 76 = .ok (.ifCond .eq 15, 3) := by decide +kernel
theorem dX9_paste_79 : decode cX9_paste 79 = .ok (.aload 7, 2) := by decide +kernel
theorem dX9_paste_81 : decode cX9_paste 81 = .ok (.iload 4, 2) := by decide +kernel
theorem dX9_paste_83 : decode cX9_paste 83 = .ok (.iload 5, 2) := by decide +kernel
theorem dX9_paste_85 : decode cX9_paste 85 = .ok (.invokevirtual 435, 3) := by decide +kernel
theorem dX9_paste_88 : decode cX9_paste 88 = .ok (.ifCond .ne 6, 3) := by decide +kernel
theorem dX9_paste_91 : decode cX9_paste 91 = .ok (.bipush (-7), 2) := by decide +kernel
theorem dX9_paste_93 : decode cX9_paste 93 = .ok (.ireturn, 1) := by decide +kernel
theorem dX9_paste_94 : decode cX9_paste 94 = .ok (.aload 6, 2) := by decide +kernel
theorem dX9_paste_96 : decode cX9_paste 96 = .ok (.getfield 438, 3) := by decide +kernel
theorem dX9_paste_99 : decode cX9_paste 99 = .ok (.iload_n 2, 1) := by decide +kernel
theorem dX9_paste_100 : decode cX9_paste 100 = .ok (.aload 7, 2) := by decide +kernel
theorem dX9_paste_102 : decode cX9_paste 102 = .ok (.getfield 438, 3) := by decide +kernel
theorem dX9_paste_105 : decode cX9_paste 105 = .ok (.iload 4, 2) := by decide +kernel
theorem dX9_paste_107 : decode cX9_paste 107 = .ok (.iload 5, 2) := by decide +kernel
theorem dX9_paste_109 : decode cX9_paste 109 = .ok (.invokestatic 442, 3) := by decide +kernel
theorem dX9_paste_112 : decode cX9_paste 112 = .ok (.iconst 0, 1) := by decide +kernel
theorem dX9_paste_113 : decode cX9_paste 113 = .ok (.ireturn, 1) := by decide +kernel
theorem dX9_isSlot_0 : decode cX9_isSlot 0 = .ok (.iload_n 0, 1) := by decide +kernel
theorem dX9_isSlot_1 : decode cX9_isSlot 1 = .ok (.ifCond .lt 12, 3) := by decide +kernel
theorem dX9_isSlot_4 : decode cX9_isSlot 4 = .ok (.iload_n 0, 1) := by decide +kernel
theorem dX9_isSlot_5 : decode cX9_isSlot 5 = .ok (.iconst 4, 1) := by decide +kernel
theorem dX9_isSlot_6 : decode cX9_isSlot 6 = .ok (.if_icmp .ge 7, 3) := by decide +kernel
theorem dX9_isSlot_9 : decode cX9_isSlot 9 = .ok (.iconst 1, 1) := by decide +kernel
theorem dX9_isSlot_10 : decode cX9_isSlot 10 = .ok (.goto 4, 3) := by decide +kernel
theorem dX9_isSlot_13 : decode cX9_isSlot 13 = .ok (.iconst 0, 1) := by decide +kernel
theorem dX9_isSlot_14 : decode cX9_isSlot 14 = .ok (.ireturn, 1) := by decide +kernel
theorem dX9_isSeed_0 : decode cX9_isSeed 0 = .ok (.iload_n 0, 1) := by decide +kernel
theorem dX9_isSeed_1 : decode cX9_isSeed 1 = .ok (.ifCond .lt 14, 3) := by decide +kernel
theorem dX9_isSeed_4 : decode cX9_isSeed 4 = .ok (.iload_n 0, 1) := by decide +kernel
theorem dX9_isSeed_5 : decode cX9_isSeed 5 = .ok (.ldc_w 448, 3) := by decide +kernel
theorem dX9_isSeed_8 : decode cX9_isSeed 8 = .ok (.if_icmp .gt 7, 3) := by decide +kernel
theorem dX9_isSeed_11 : decode cX9_isSeed 11 = .ok (.iconst 1, 1) := by decide +kernel
theorem dX9_isSeed_12 : decode cX9_isSeed 12 = .ok (.goto 4, 3) := by decide +kernel
theorem dX9_isSeed_15 : decode cX9_isSeed 15 = .ok (.iconst 0, 1) := by decide +kernel
theorem dX9_isSeed_16 : decode cX9_isSeed 16 = .ok (.ireturn, 1) := by decide +kernel
theorem dX9_isPart_0 : decode cX9_isPart 0 = .ok (.iload_n 0, 1) := by decide +kernel
theorem dX9_isPart_1 : decode cX9_isPart 1 = .ok (.ifCond .eq 8, 3) := by decide +kernel
theorem dX9_isPart_4 : decode cX9_isPart 4 = .ok (.iload_n 0, 1) := by decide +kernel
theorem dX9_isPart_5 : decode cX9_isPart 5 = .ok (.iconst 1, 1) := by decide +kernel
theorem dX9_isPart_6 : decode cX9_isPart 6 = .ok (.if_icmp .ne 7, 3) := by decide +kernel
theorem dX9_isPart_9 : decode cX9_isPart 9 = .ok (.iconst 1, 1) := by decide +kernel
theorem dX9_isPart_10 : decode cX9_isPart 10 = .ok (.goto 4, 3) := by decide +kernel
theorem dX9_isPart_13 : decode cX9_isPart 13 = .ok (.iconst 0, 1) := by decide +kernel
theorem dX9_isPart_14 : decode cX9_isPart 14 = .ok (.ireturn, 1) := by decide +kernel
theorem dX9_hasBit_0 : decode cX9_hasBit 0 = .ok (.iload_n 1, 1) := by decide +kernel
theorem dX9_hasBit_1 : decode cX9_hasBit 1 = .ok (.ifCond .lt 21, 3) := by decide +kernel
theorem dX9_hasBit_4 : decode cX9_hasBit 4 = .ok (.iload_n 1, 1) := by decide +kernel
theorem dX9_hasBit_5 : decode cX9_hasBit 5 = .ok (.bipush 32, 2) := by decide +kernel
theorem dX9_hasBit_7 : decode cX9_hasBit 7 = .ok (.if_icmp .ge 15, 3) := by decide +kernel
theorem dX9_hasBit_10 : decode cX9_hasBit 10 = .ok (.iload_n 0, 1) := by decide +kernel
theorem dX9_hasBit_11 : decode cX9_hasBit 11 = .ok (.iload_n 1, 1) := by decide +kernel
theorem dX9_hasBit_12 : decode cX9_hasBit 12 = .ok (.iushr, 1) := by decide +kernel
theorem dX9_hasBit_13 : decode cX9_hasBit 13 = .ok (.iconst 1, 1) := by decide +kernel
theorem dX9_hasBit_14 : decode cX9_hasBit 14 = .ok (.iand, 1) := by decide +kernel
theorem dX9_hasBit_15 : decode cX9_hasBit 15 = .ok (.ifCond .eq 7, 3) := by decide +kernel
theorem dX9_hasBit_18 : decode cX9_hasBit 18 = .ok (.iconst 1, 1) := by decide +kernel
theorem dX9_hasBit_19 : decode cX9_hasBit 19 = .ok (.goto 4, 3) := by decide +kernel
theorem dX9_hasBit_22 : decode cX9_hasBit 22 = .ok (.iconst 0, 1) := by decide +kernel
theorem dX9_hasBit_23 : decode cX9_hasBit 23 = .ok (.ireturn, 1) := by decide +kernel
theorem dX9_lowest_0 : decode cX9_lowest 0 = .ok (.iconst 0, 1) := by decide +kernel
theorem dX9_lowest_1 : decode cX9_lowest 1 = .ok (.istore_n 1, 1) := by decide +kernel
theorem dX9_lowest_2 : decode cX9_lowest 2 = .ok (.iload_n 1, 1) := by decide +kernel
theorem dX9_lowest_3 : decode cX9_lowest 3 = .ok (.bipush 32, 2) := by decide +kernel
theorem dX9_lowest_5 : decode cX9_lowest 5 = .ok (.if_icmp .ge 19, 3) := by decide +kernel
theorem dX9_lowest_8 : decode cX9_lowest 8 = .ok (.iload_n 0, 1) := by decide +kernel
theorem dX9_lowest_9 : decode cX9_lowest 9 = .ok (.iload_n 1, 1) := by decide +kernel
theorem dX9_lowest_10 : decode cX9_lowest 10 = .ok (.invokestatic 175, 3) := by decide +kernel
theorem dX9_lowest_13 : decode cX9_lowest 13 = .ok (.ifCond .eq 5, 3) := by decide +kernel
theorem dX9_lowest_16 : decode cX9_lowest 16 = .ok (.iload_n 1, 1) := by decide +kernel
theorem dX9_lowest_17 : decode cX9_lowest 17 = .ok (.ireturn, 1) := by decide +kernel
theorem dX9_lowest_18 : decode cX9_lowest 18 = .ok (.iinc 1 1, 3) := by decide +kernel
theorem dX9_lowest_21 : decode cX9_lowest 21 = .ok (.goto (-19), 3) := by decide +kernel
theorem dX9_lowest_24 : decode cX9_lowest 24 = .ok (.iconst (-1), 1) := by decide +kernel
theorem dX9_lowest_25 : decode cX9_lowest 25 = .ok (.ireturn, 1) := by decide +kernel
theorem dX9_lowestTerms_0 : decode cX9_lowestTerms 0 = .ok (.lload_n 0, 1) := by decide +kernel
theorem dX9_lowestTerms_1 : decode cX9_lowestTerms 1 = .ok (.lstore 5, 2) := by decide +kernel
theorem dX9_lowestTerms_3 : decode cX9_lowestTerms 3 = .ok (.lload_n 2, 1) := by decide +kernel
theorem dX9_lowestTerms_4 : decode cX9_lowestTerms 4 = .ok (.lstore 7, 2) := by decide +kernel
theorem dX9_lowestTerms_6 : decode cX9_lowestTerms 6 = .ok (.iconst 0, 1) := by decide +kernel
theorem dX9_lowestTerms_7 : decode cX9_lowestTerms 7 = .ok (.istore 9, 2) := by decide +kernel
theorem dX9_lowestTerms_9 : decode cX9_lowestTerms 9 = .ok (.iload 9, 2) := by decide +kernel
theorem dX9_lowestTerms_11 : decode cX9_lowestTerms 11 = .ok (.sipush 200, 3) := by decide +kernel
theorem dX9_lowestTerms_14 : decode cX9_lowestTerms 14 = .ok (.if_icmp .ge 31, 3) := by decide +kernel
theorem dX9_lowestTerms_17 : decode cX9_lowestTerms 17 = .ok (.lload 7, 2) := by decide +kernel
theorem dX9_lowestTerms_19 : decode cX9_lowestTerms 19 = .ok (.lconst 0, 1) := by decide +kernel
theorem dX9_lowestTerms_20 : decode cX9_lowestTerms 20 = .ok (.lcmp, 1) := by decide +kernel
theorem dX9_lowestTerms_21 : decode cX9_lowestTerms 21 = .ok (.ifCond .eq 24, 3) := by decide +kernel
theorem dX9_lowestTerms_24 : decode cX9_lowestTerms 24 = .ok (.lload 5, 2) := by decide +kernel
theorem dX9_lowestTerms_26 : decode cX9_lowestTerms 26 = .ok (.lload 7, 2) := by decide +kernel
theorem dX9_lowestTerms_28 : decode cX9_lowestTerms 28 = .ok (.lrem, 1) := by decide +kernel
theorem dX9_lowestTerms_29 : decode cX9_lowestTerms 29 = .ok (.lstore 10, 2) := by decide +kernel
theorem dX9_lowestTerms_31 : decode cX9_lowestTerms 31 = .ok (.lload 7, 2) := by decide +kernel
theorem dX9_lowestTerms_33 : decode cX9_lowestTerms 33 = .ok (.lstore 5, 2) := by decide +kernel
theorem dX9_lowestTerms_35 : decode cX9_lowestTerms 35 = .ok (.lload 10, 2) := by decide +kernel
theorem dX9_lowestTerms_37 : decode cX9_lowestTerms 37 = .ok (.lstore 7, 2) := by decide +kernel
theorem dX9_lowestTerms_39 : decode cX9_lowestTerms 39 = .ok (.iinc 9 1, 3) := by decide +kernel
theorem dX9_lowestTerms_42 : decode cX9_lowestTerms 42 = .ok (.goto (-33), 3) := by decide +kernel
theorem dX9_lowestTerms_45 : decode cX9_lowestTerms 45 = .ok (.iload 4, 2) := by decide +kernel
theorem dX9_lowestTerms_47 : decode cX9_lowestTerms 47 = .ok (.ifCond .ne 7, 3) := by decide +kernel
theorem dX9_lowestTerms_50 : decode cX9_lowestTerms 50 = .ok (.lload_n 0, 1) := by decide +kernel
theorem dX9_lowestTerms_51 : decode cX9_lowestTerms 51 = .ok (.goto 4, 3) := by decide +kernel
theorem dX9_lowestTerms_54 : decode cX9_lowestTerms 54 = .ok (.lload_n 2, 1) := by decide +kernel
theorem dX9_lowestTerms_55 : decode cX9_lowestTerms 55 = .ok (.lstore 9, 2) := by decide +kernel
theorem dX9_lowestTerms_57 : decode cX9_lowestTerms 57 = .ok (.lload 5, 2) := by decide +kernel
theorem dX9_lowestTerms_59 : decode cX9_lowestTerms 59 = .ok (.lconst 0, 1) := by decide +kernel
theorem dX9_lowestTerms_60 : decode cX9_lowestTerms 60 = .ok (.lcmp, 1) := by decide +kernel
theorem dX9_lowestTerms_61 : decode cX9_lowestTerms 61 = .ok (.ifCond .ne 8, 3) := by decide +kernel
theorem dX9_lowestTerms_64 : decode cX9_lowestTerms 64 = .ok (.lload 9, 2) := by decide +kernel
theorem dX9_lowestTerms_66 : decode cX9_lowestTerms 66 = .ok (.goto 8, 3) := by decide +kernel
theorem dX9_lowestTerms_69 : decode cX9_lowestTerms 69 = .ok (.lload 9, 2) := by decide +kernel
theorem dX9_lowestTerms_71 : decode cX9_lowestTerms 71 = .ok (.lload 5, 2) := by decide +kernel
theorem dX9_lowestTerms_73 : decode cX9_lowestTerms 73 = .ok (.ldiv, 1) := by decide +kernel
theorem dX9_lowestTerms_74 : decode cX9_lowestTerms 74 = .ok (.lreturn, 1) := by decide +kernel
theorem dX10_in_0 : decode cX10_in 0 = .ok (.lload_n 0, 1) := by decide +kernel
theorem dX10_in_1 : decode cX10_in 1 = .ok (.lload_n 2, 1) := by decide +kernel
theorem dX10_in_2 : decode cX10_in 2 = .ok (.lcmp, 1) := by decide +kernel
theorem dX10_in_3 : decode cX10_in 3 = .ok (.ifCond .lt 14, 3) := by decide +kernel
theorem dX10_in_6 : decode cX10_in 6 = .ok (.lload_n 0, 1) := by decide +kernel
theorem dX10_in_7 : decode cX10_in 7 = .ok (.lload 4, 2) := by decide +kernel
theorem dX10_in_9 : decode cX10_in 9 = .ok (.lcmp, 1) := by decide +kernel
theorem dX10_in_10 : decode cX10_in 10 = .ok (.ifCond .gt 7, 3) := by decide +kernel
theorem dX10_in_13 : decode cX10_in 13 = .ok (.iconst 1, 1) := by decide +kernel
theorem dX10_in_14 : decode cX10_in 14 = .ok (.goto 4, 3) := by decide +kernel
theorem dX10_in_17 : decode cX10_in 17 = .ok (.iconst 0, 1) := by decide +kernel
theorem dX10_in_18 : decode cX10_in 18 = .ok (.ireturn, 1) := by decide +kernel
theorem dX10_bits_0 : decode cX10_bits 0 = .ok (.iconst 0, 1) := by decide +kernel
theorem dX10_bits_1 : decode cX10_bits 1 = .ok (.istore_n 1, 1) := by decide +kernel
theorem dX10_bits_2 : decode cX10_bits 2 = .ok (.iconst 0, 1) := by decide +kernel
theorem dX10_bits_3 : decode cX10_bits 3 = .ok (.istore_n 2, 1) := by decide +kernel
theorem dX10_bits_4 : decode cX10_bits 4 = .ok (.iload_n 2, 1) := by decide +kernel
theorem dX10_bits_5 : decode cX10_bits 5 = .ok (.bipush 16, 2) := by decide +kernel
theorem dX10_bits_7 : decode cX10_bits 7 = .ok (.if_icmp .ge 17, 3) := by decide +kernel
theorem dX10_bits_10 : decode cX10_bits 10 = .ok (.iload_n 1, 1) := by decide +kernel
theorem dX10_bits_11 : decode cX10_bits 11 = .ok (.iload_n 0, 1) := by decide +kernel
theorem dX10_bits_12 : decode cX10_bits 12 = .ok (.iload_n 2, 1) := by decide +kernel
theorem dX10_bits_13 : decode cX10_bits 13 = .ok (.ishr, 1) := by decide +kernel
theorem dX10_bits_14 : decode cX10_bits 14 = .ok (.iconst 1, 1) := by decide +kernel
theorem dX10_bits_15 : decode cX10_bits 15 = .ok (.iand, 1) := by decide +kernel
theorem dX10_bits_16 : decode cX10_bits 16 = .ok (.iadd, 1) := by decide +kernel
theorem dX10_bits_17 : decode cX10_bits 17 = .ok (.istore_n 1, 1) := by decide +kernel
theorem dX10_bits_18 : decode cX10_bits 18 = .ok (.iinc 2 1, 3) := by decide +kernel
theorem dX10_bits_21 : decode cX10_bits 21 = .ok (.goto (-17), 3) := by decide +kernel
theorem dX10_bits_24 : decode cX10_bits 24 = .ok (.iload_n 1, 1) := by decide +kernel
theorem dX10_bits_25 : decode cX10_bits 25 = .ok (.ireturn, 1) := by decide +kernel
theorem dX10_bit_0 : decode cX10_bit 0 = .ok (.iload_n 0, 1) := by decide +kernel
theorem dX10_bit_1 : decode cX10_bit 1 = .ok (.iload_n 1, 1) := by decide +kernel
theorem dX10_bit_2 : decode cX10_bit 2 = .ok (.ishr, 1) := by decide +kernel
theorem dX10_bit_3 : decode cX10_bit 3 = .ok (.iconst 1, 1) := by decide +kernel
theorem dX10_bit_4 : decode cX10_bit 4 = .ok (.iand, 1) := by decide +kernel
theorem dX10_bit_5 : decode cX10_bit 5 = .ok (.ireturn, 1) := by decide +kernel
theorem dX10_image_0 : decode cX10_image 0 = .ok (.iload_n 1, 1) := by decide +kernel
theorem dX10_image_1 : decode cX10_image 1 = .ok (.i2l, 1) := by decide +kernel
theorem dX10_image_2 : decode cX10_image 2 = .ok (.lconst 0, 1) := by decide +kernel
theorem dX10_image_3 : decode cX10_image 3 = .ok (.ldc2_w 80, 3) := by decide +kernel
theorem dX10_image_6 : decode cX10_image 6 = .ok (.invokestatic 82, 3) := by decide +kernel
theorem dX10_image_9 : decode cX10_image 9 = .ok (.ifCond .ne 6, 3) := by decide +kernel
theorem dX10_image_12 : decode cX10_image 12 = .ok (.bipush (-2), 2) := by decide +kernel
theorem dX10_image_14 : decode cX10_image 14 = .ok (.ireturn, 1) := by decide +kernel
theorem dX10_image_15 : decode cX10_image 15 = .ok (.iconst 0, 1) := by decide +kernel
theorem dX10_image_16 : decode cX10_image 16 = .ok (.istore_n 2, 1) := by decide +kernel
theorem dX10_image_17 : decode cX10_image 17 = .ok (.iload_n 2, 1) := by decide +kernel
theorem dX10_image_18 : decode cX10_image 18 = .ok (.sipush 134, 3) := by decide +kernel
theorem dX10_image_21 : decode cX10_image 21 = .ok (.if_icmp .ge 27, 3) := by decide +kernel
theorem dX10_image_24 : decode cX10_image 24 = .ok (.aload_n 0, 1) := by decide +kernel
theorem dX10_image_25 : decode cX10_image 25 = .ok (.getfield 13, 3) := by decide +kernel
theorem dX10_image_28 : decode cX10_image 28 = .ok (.sipush 134, 3) := by decide +kernel
theorem dX10_image_31 : decode cX10_image 31 = .ok (.iload_n 1, 1) := by decide +kernel
theorem dX10_image_32 : decode cX10_image 32 = .ok (.imul, 1) := by decide +kernel
theorem dX10_image_33 : decode cX10_image 33 = .ok (.iload_n 2, 1) := by decide +kernel
theorem dX10_image_34 : decode cX10_image 34 = .ok (.iadd, 1) := by decide +kernel
theorem dX10_image_35 : decode cX10_image 35 = .ok (.aload_n 0, 1) := by decide +kernel
theorem dX10_image_36 : decode cX10_image 36 = .ok (.getfield 9, 3) := by decide +kernel
theorem dX10_image_39 : decode cX10_image 39 = .ok (.iload_n 2, 1) := by decide +kernel
theorem dX10_image_40 : decode cX10_image 40 = .ok (.iaload, 1) := by decide +kernel
theorem dX10_image_41 : decode cX10_image 41 = .ok (.iastore, 1) := by decide +kernel
theorem dX10_image_42 : decode cX10_image 42 = .ok (.iinc 2 1, 3) := by decide +kernel
theorem dX10_image_45 : decode cX10_image 45 = .ok (.goto (-28), 3) := by decide +kernel
theorem dX10_image_48 : decode cX10_image 48 = .ok (.aload_n 0, 1) := by decide +kernel
theorem dX10_image_49 : decode cX10_image 49 = .ok (.getfield 16, 3) := by decide +kernel
theorem dX10_image_52 : decode cX10_image 52 = .ok (.iload_n 1, 1) := by decide +kernel
theorem dX10_image_53 : decode cX10_image 53 = .ok (.iconst 1, 1) := by decide +kernel
theorem dX10_image_54 : decode cX10_image 54 = .ok (.bastore, 1) := by decide +kernel
theorem dX10_image_55 : decode cX10_image 55 = .ok (.iconst 0, 1) := by decide +kernel
theorem dX10_image_56 : decode cX10_image 56 = .ok (.ireturn, 1) := by decide +kernel
theorem dX10_back_0 : decode cX10_back 0 = .ok (.iload_n 1, 1) := by decide +kernel
theorem dX10_back_1 : decode cX10_back 1 = .ok (.i2l, 1) := by decide +kernel
theorem dX10_back_2 : decode cX10_back 2 = .ok (.lconst 0, 1) := by decide +kernel
theorem dX10_back_3 : decode cX10_back 3 = .ok (.ldc2_w 80, 3) := by decide +kernel
theorem dX10_back_6 : decode cX10_back 6 = .ok (.invokestatic 82, 3) := by decide +kernel
theorem dX10_back_9 : decode cX10_back 9 = .ok (.ifCond .ne 6, 3) := by decide +kernel
theorem dX10_back_12 : decode cX10_back 12 = .ok (.bipush (-2), 2) := by decide +kernel
theorem dX10_back_14 : decode cX10_back 14 = .ok (.ireturn, 1) := by decide +kernel
theorem dX10_back_15 : decode cX10_back 15 = .ok (.aload_n 0, 1) := by decide +kernel
theorem dX10_back_16 : decode cX10_back 16 = .ok (.getfield 16, 3) := by decide +kernel
theorem dX10_back_19 : decode cX10_back 19 = .ok (.iload_n 1, 1) := by decide +kernel
theorem dX10_back_20 : decode cX10_back 20 = .ok (.baload, 1) := by decide +kernel
theorem dX10_back_21 : decode cX10_back 21 = .ok (.ifCond .ne 6, 3) := by decide +kernel
theorem dX10_back_24 : decode cX10_back 24 = .ok (.bipush (-6), 2) := by decide +kernel
theorem dX10_back_26 : decode cX10_back 26 = .ok (.ireturn, 1) := by decide +kernel
theorem dX10_back_27 : decode cX10_back 27 = .ok (.iconst 0, 1) := by decide +kernel
theorem dX10_back_28 : decode cX10_back 28 = .ok (.istore_n 2, 1) := by decide +kernel
theorem dX10_back_29 : decode cX10_back 29 = .ok (.iload_n 2, 1) := by decide +kernel
theorem dX10_back_30 : decode cX10_back 30 = .ok (.sipush 134, 3) := by decide +kernel
theorem dX10_back_33 : decode cX10_back 33 = .ok (.if_icmp .ge 27, 3) := by decide +kernel
theorem dX10_back_36 : decode cX10_back 36 = .ok (.aload_n 0, 1) := by decide +kernel
theorem dX10_back_37 : decode cX10_back 37 = .ok (.getfield 9, 3) := by decide +kernel
theorem dX10_back_40 : decode cX10_back 40 = .ok (.iload_n 2, 1) := by decide +kernel
theorem dX10_back_41 : decode cX10_back 41 = .ok (.aload_n 0, 1) := by decide +kernel
theorem dX10_back_42 : decode cX10_back 42 = .ok (.getfield 13, 3) := by decide +kernel
theorem dX10_back_45 : decode cX10_back 45 = .ok (.sipush 134, 3) := by decide +kernel
theorem dX10_back_48 : decode cX10_back 48 = .ok (.iload_n 1, 1) := by decide +kernel
theorem dX10_back_49 : decode cX10_back 49 = .ok (.imul, 1) := by decide +kernel
theorem dX10_back_50 : decode cX10_back 50 = .ok (.iload_n 2, 1) := by decide +kernel
theorem dX10_back_51 : decode cX10_back 51 = .ok (.iadd, 1) := by decide +kernel
theorem dX10_back_52 : decode cX10_back 52 = .ok (.iaload, 1) := by decide +kernel
theorem dX10_back_53 : decode cX10_back 53 = .ok (.iastore, 1) := by decide +kernel
theorem dX10_back_54 : decode cX10_back 54 = .ok (.iinc 2 1, 3) := by decide +kernel
theorem dX10_back_57 : decode cX10_back 57 = .ok (.goto (-28), 3) := by decide +kernel
theorem dX10_back_60 : decode cX10_back 60 = .ok (.iconst 0, 1) := by decide +kernel
theorem dX10_back_61 : decode cX10_back 61 = .ok (.ireturn, 1) := by decide +kernel
theorem dX10_isBall_0 : decode cX10_isBall 0 = .ok (.aload_n 0, 1) := by decide +kernel
theorem dX10_isBall_1 : decode cX10_isBall 1 = .ok (.getfield 9, 3) := by decide +kernel
theorem dX10_isBall_4 : decode cX10_isBall 4 = .ok (.bipush 9, 2) := by decide +kernel
theorem dX10_isBall_6 : decode cX10_isBall 6 = .ok (.iaload, 1) := by decide +kernel
theorem dX10_isBall_7 : decode cX10_isBall 7 = .ok (.ifCond .le 7, 3) := by decide +kernel
theorem dX10_isBall_10 : decode cX10_isBall 10 = .ok (.iconst 1, 1) := by decide +kernel
theorem dX10_isBall_11 : decode cX10_isBall 11 = .ok (.goto 4, 3) := by decide +kernel
theorem dX10_isBall_14 : decode cX10_isBall 14 = .ok (.iconst 0, 1) := by decide +kernel
theorem dX10_isBall_15 : decode cX10_isBall 15 = .ok (.ireturn, 1) := by decide +kernel
theorem dX10_isRoom_0 : decode cX10_isRoom 0 = .ok (.iload_n 1, 1) := by decide +kernel
theorem dX10_isRoom_1 : decode cX10_isRoom 1 = .ok (.i2l, 1) := by decide +kernel
theorem dX10_isRoom_2 : decode cX10_isRoom 2 = .ok (.lconst 0, 1) := by decide +kernel
theorem dX10_isRoom_3 : decode cX10_isRoom 3 = .ok (.aload_n 0, 1) := by decide +kernel
theorem dX10_isRoom_4 : decode cX10_isRoom 4 = .ok (.getfield 9, 3) := by decide +kernel
theorem dX10_isRoom_7 : decode cX10_isRoom 7 = .ok (.iconst 0, 1) := by decide +kernel
theorem dX10_isRoom_8 : decode cX10_isRoom 8 = .ok (.iaload, 1) := by decide +kernel
theorem dX10_isRoom_9 : decode cX10_isRoom 9 = .ok (.iconst 1, 1) := by decide +kernel
theorem dX10_isRoom_10 : decode cX10_isRoom 10 = .ok (.isub, 1) := by decide +kernel
theorem dX10_isRoom_11 : decode cX10_isRoom 11 = .ok (.i2l, 1) := by decide +kernel
theorem dX10_isRoom_12 : decode cX10_isRoom 12 = .ok (.invokestatic 82, 3) := by decide +kernel
theorem dX10_isRoom_15 : decode cX10_isRoom 15 = .ok (.ireturn, 1) := by decide +kernel
theorem dX10_isDance_0 : decode cX10_isDance 0 = .ok (.aload_n 0, 1) := by decide +kernel
theorem dX10_isDance_1 : decode cX10_isDance 1 = .ok (.invokevirtual 86, 3) := by decide +kernel
theorem dX10_isDance_4 : decode cX10_isDance 4 = .ok (.ifCond .eq 22, 3) := by decide +kernel
theorem dX10_isDance_7 : decode cX10_isDance 7 = .ok (.lload_n 1, 1) := by decide +kernel
theorem dX10_isDance_8 : decode cX10_isDance 8 = .ok (.lconst 0, 1) := by decide +kernel
theorem dX10_isDance_9 : decode cX10_isDance 9 = .ok (.aload_n 0, 1) := by decide +kernel
theorem dX10_isDance_10 : decode cX10_isDance 10 = .ok (.getfield 9, 3) := by decide +kernel
theorem dX10_isDance_13 : decode cX10_isDance 13 = .ok (.iconst 1, 1) := by decide +kernel
theorem dX10_isDance_14 : decode cX10_isDance 14 = .ok (.iaload, 1) := by decide +kernel
theorem dX10_isDance_15 : decode cX10_isDance 15 = .ok (.i2l, 1) := by decide +kernel
theorem dX10_isDance_16 : decode cX10_isDance 16 = .ok (.invokestatic 82, 3) := by decide +kernel
theorem dX10_isDance_19 : decode cX10_isDance 19 = .ok (.ifCond .eq 7, 3) := by decide +kernel
theorem dX10_isDance_22 : decode cX10_isDance 22 = .ok (.iconst 1, 1) := by decide +kernel
theorem dX10_isDance_23 : decode cX10_isDance 23 = .ok (.goto 4, 3) := by decide +kernel
theorem dX10_isDance_26 : decode cX10_isDance 26 = .ok (.iconst 0, 1) := by decide +kernel
theorem dX10_isDance_27 : decode cX10_isDance 27 = .ok (.ireturn, 1) := by decide +kernel
theorem dX10_isDoor_0 : decode cX10_isDoor 0 = .ok (.iload_n 1, 1) := by decide +kernel
theorem dX10_isDoor_1 : decode cX10_isDoor 1 = .ok (.i2l, 1) := by decide +kernel
theorem dX10_isDoor_2 : decode cX10_isDoor 2 = .ok (.lconst 0, 1) := by decide +kernel
theorem dX10_isDoor_3 : decode cX10_isDoor 3 = .ok (.aload_n 0, 1) := by decide +kernel
theorem dX10_isDoor_4 : decode cX10_isDoor 4 = .ok (.getfield 9, 3) := by decide +kernel
theorem dX10_isDoor_7 : decode cX10_isDoor 7 = .ok (.iconst 4, 1) := by decide +kernel
theorem dX10_isDoor_8 : decode cX10_isDoor 8 = .ok (.iaload, 1) := by decide +kernel
theorem dX10_isDoor_9 : decode cX10_isDoor 9 = .ok (.iconst 1, 1) := by decide +kernel
theorem dX10_isDoor_10 : decode cX10_isDoor 10 = .ok (.isub, 1) := by decide +kernel
theorem dX10_isDoor_11 : decode cX10_isDoor 11 = .ok (.i2l, 1) := by decide +kernel
theorem dX10_isDoor_12 : decode cX10_isDoor 12 = .ok (.invokestatic 82, 3) := by decide +kernel
theorem dX10_isDoor_15 : decode cX10_isDoor 15 = .ok (.ireturn, 1) := by decide +kernel
theorem dX10_isLady_0 : decode cX10_isLady 0 = .ok (.lload_n 1, 1) := by decide +kernel
theorem dX10_isLady_1 : decode cX10_isLady 1 = .ok (.lconst 0, 1) := by decide +kernel
theorem dX10_isLady_2 : decode cX10_isLady 2 = .ok (.aload_n 0, 1) := by decide +kernel
theorem dX10_isLady_3 : decode cX10_isLady 3 = .ok (.getfield 9, 3) := by decide +kernel
theorem dX10_isLady_6 : decode cX10_isLady 6 = .ok (.iconst 5, 1) := by decide +kernel
theorem dX10_isLady_7 : decode cX10_isLady 7 = .ok (.iaload, 1) := by decide +kernel
theorem dX10_isLady_8 : decode cX10_isLady 8 = .ok (.iconst 1, 1) := by decide +kernel
theorem dX10_isLady_9 : decode cX10_isLady 9 = .ok (.isub, 1) := by decide +kernel
theorem dX10_isLady_10 : decode cX10_isLady 10 = .ok (.i2l, 1) := by decide +kernel
theorem dX10_isLady_11 : decode cX10_isLady 11 = .ok (.invokestatic 82, 3) := by decide +kernel
theorem dX10_isLady_14 : decode cX10_isLady 14 = .ok (.ireturn, 1) := by decide +kernel
theorem dX10_isMinister_0 : decode cX10_isMinister 0 = .ok (.iload_n 1, 1) := by decide +kernel
theorem dX10_isMinister_1 : decode cX10_isMinister 1 = .ok (.i2l, 1) := by decide +kernel
theorem dX10_isMinister_2 : decode cX10_isMinister 2 = .ok (.lconst 0, 1) := by decide +kernel
theorem dX10_isMinister_3 : decode cX10_isMinister 3 = .ok (.aload_n 0, 1) := by decide +kernel
theorem dX10_isMinister_4 : decode cX10_isMinister 4 = .ok (.getfield 9, 3) := by decide +kernel
theorem dX10_isMinister_7 : decode cX10_isMinister 7 = .ok (.bipush 6, 2) := by decide +kernel
theorem dX10_isMinister_9 : decode cX10_isMinister 9 = .ok (.iaload, 1) := by decide +kernel
theorem dX10_isMinister_10 : decode cX10_isMinister 10 = .ok (.iconst 1, 1) := by decide +kernel
theorem dX10_isMinister_11 : decode cX10_isMinister 11 = .ok (.isub, 1) := by decide +kernel
theorem dX10_isMinister_12 : decode cX10_isMinister 12 = .ok (.i2l, 1) := by decide +kernel
theorem dX10_isMinister_13 : decode cX10_isMinister 13 = .ok (.invokestatic 82, 3) := by decide +kernel
theorem dX10_isMinister_16 : decode cX10_isMinister 16 = .ok (.ireturn, 1) := by decide +kernel
theorem dX10_isSet_0 : decode cX10_isSet 0 = .ok (.aload_n 0, 1) := by decide +kernel
theorem dX10_isSet_1 : decode cX10_isSet 1 = .ok (.invokevirtual 86, 3) := by decide +kernel
theorem dX10_isSet_4 : decode cX10_isSet 4 = .ok (.ifCond .eq 27, 3) := by decide +kernel
theorem dX10_isSet_7 : decode cX10_isSet 7 = .ok (.iload_n 1, 1) := by decide +kernel
theorem dX10_isSet_8 : decode cX10_isSet 8 = .ok (.i2l, 1) := by decide +kernel
theorem dX10_isSet_9 : decode cX10_isSet 9 = .ok (.lconst 0, 1) := by decide +kernel
theorem dX10_isSet_10 : decode cX10_isSet 10 = .ok (.iconst 1, 1) := by decide +kernel
theorem dX10_isSet_11 : decode cX10_isSet 11 = .ok (.aload_n 0, 1) := by decide +kernel
theorem dX10_isSet_12 : decode cX10_isSet 12 = .ok (.getfield 9, 3) := by decide +kernel
theorem dX10_isSet_15 : decode cX10_isSet 15 = .ok (.iconst 5, 1) := by decide +kernel
theorem dX10_isSet_16 : decode cX10_isSet 16 = .ok (.iaload, 1) := by decide +kernel
theorem dX10_isSet_17 : decode cX10_isSet 17 = .ok (.ishl, 1) := by decide +kernel
theorem dX10_isSet_18 : decode cX10_isSet 18 = .ok (.iconst 1, 1) := by decide +kernel
theorem dX10_isSet_19 : decode cX10_isSet 19 = .ok (.isub, 1) := by decide +kernel
theorem dX10_isSet_20 : decode cX10_isSet 20 = .ok (.i2l, 1) := by decide +kernel
theorem dX10_isSet_21 : decode cX10_isSet 21 = .ok (.invokestatic 82, 3) := by decide +kernel
theorem dX10_isSet_24 : decode cX10_isSet 24 = .ok (.ifCond .eq 7, 3) := by decide +kernel
theorem dX10_isSet_27 : decode cX10_isSet 27 = .ok (.iconst 1, 1) := by decide +kernel
theorem dX10_isSet_28 : decode cX10_isSet 28 = .ok (.goto 4, 3) := by decide +kernel
theorem dX10_isSet_31 : decode cX10_isSet 31 = .ok (.iconst 0, 1) := by decide +kernel
theorem dX10_isSet_32 : decode cX10_isSet 32 = .ok (.ireturn, 1) := by decide +kernel
theorem dX10_dances_0 : decode cX10_dances 0 = .ok (.aload_n 0, 1) := by decide +kernel
theorem dX10_dances_1 : decode cX10_dances 1 = .ok (.getfield 9, 3) := by decide +kernel
theorem dX10_dances_4 : decode cX10_dances 4 = .ok (.iconst 1, 1) := by decide +kernel
theorem dX10_dances_5 : decode cX10_dances 5 = .ok (.iaload, 1) := by decide +kernel
theorem dX10_dances_6 : decode cX10_dances 6 = .ok (.ireturn, 1) := by decide +kernel
theorem dX10_ladies_0 : decode cX10_ladies 0 = .ok (.aload_n 0, 1) := by decide +kernel
theorem dX10_ladies_1 : decode cX10_ladies 1 = .ok (.getfield 9, 3) := by decide +kernel
theorem dX10_ladies_4 : decode cX10_ladies 4 = .ok (.iconst 5, 1) := by decide +kernel
theorem dX10_ladies_5 : decode cX10_ladies 5 = .ok (.iaload, 1) := by decide +kernel
theorem dX10_ladies_6 : decode cX10_ladies 6 = .ok (.ireturn, 1) := by decide +kernel
theorem dX10_wideOf_0 : decode cX10_wideOf 0 = .ok (.aload_n 0, 1) := by decide +kernel
theorem dX10_wideOf_1 : decode cX10_wideOf 1 = .ok (.getfield 9, 3) := by decide +kernel
theorem dX10_wideOf_4 : decode cX10_wideOf 4 = .ok (.bipush 46, 2) := by decide +kernel
theorem dX10_wideOf_6 : decode cX10_wideOf 6 = .ok (.iconst 2, 1) := by decide +kernel
theorem dX10_wideOf_7 : decode cX10_wideOf 7 = .ok (.iload_n 1, 1) := by decide +kernel
theorem dX10_wideOf_8 : decode cX10_wideOf 8 = .ok (.imul, 1) := by decide +kernel
theorem dX10_wideOf_9 : decode cX10_wideOf 9 = .ok (.iadd, 1) := by decide +kernel
theorem dX10_wideOf_10 : decode cX10_wideOf 10 = .ok (.iconst 1, 1) := by decide +kernel
theorem dX10_wideOf_11 : decode cX10_wideOf 11 = .ok (.iadd, 1) := by decide +kernel
theorem dX10_wideOf_12 : decode cX10_wideOf 12 = .ok (.iaload, 1) := by decide +kernel
theorem dX10_wideOf_13 : decode cX10_wideOf 13 = .ok (.ireturn, 1) := by decide +kernel
theorem dX10_feed_0 : decode cX10_feed 0 = .ok (.aload_n 0, 1) := by decide +kernel
theorem dX10_feed_1 : decode cX10_feed 1 = .ok (.getfield 90, 3) := by decide +kernel
theorem dX10_feed_4 : decode cX10_feed 4 = .ok (.bipush 20, 2) := by decide +kernel
theorem dX10_feed_6 : decode cX10_feed 6 = .ok (.iadd, 1) := by decide +kernel
theorem dX10_feed_7 : decode cX10_feed 7 = .ok (.sipush 1000, 3) := by decide +kernel
theorem dX10_feed_10 : decode cX10_feed 10 = .ok (.if_icmp .le 5, 3) := by decide +kernel
theorem dX10_feed_13 : decode cX10_feed 13 = .ok (.iconst (-1), 1) := by decide +kernel
theorem dX10_feed_14 : decode cX10_feed 14 = .ok (.ireturn, 1) := by decide +kernel
theorem dX10_feed_15 : decode cX10_feed 15 = .ok (.aload_n 0, 1) := by decide +kernel
theorem dX10_feed_16 : decode cX10_feed 16 = .ok (.getfield 24, 3) := by decide +kernel
theorem dX10_feed_19 : decode cX10_feed 19 = .ok (.iconst 0, 1) := by decide +kernel
theorem dX10_feed_20 : decode cX10_feed 20 = .ok (.iload_n 1, 1) := by decide +kernel
theorem dX10_feed_21 : decode cX10_feed 21 = .ok (.iastore, 1) := by decide +kernel
theorem dX10_feed_22 : decode cX10_feed 22 = .ok (.aload_n 0, 1) := by decide +kernel
theorem dX10_feed_23 : decode cX10_feed 23 = .ok (.getfield 24, 3) := by decide +kernel
theorem dX10_feed_26 : decode cX10_feed 26 = .ok (.iconst 1, 1) := by decide +kernel
theorem dX10_feed_27 : decode cX10_feed 27 = .ok (.iload_n 2, 1) := by decide +kernel
theorem dX10_feed_28 : decode cX10_feed 28 = .ok (.iastore, 1) := by decide +kernel
theorem dX10_feed_29 : decode cX10_feed 29 = .ok (.aload_n 0, 1) := by decide +kernel
theorem dX10_feed_30 : decode cX10_feed 30 = .ok (.getfield 24, 3) := by decide +kernel
theorem dX10_feed_33 : decode cX10_feed 33 = .ok (.iconst 2, 1) := by decide +kernel
theorem dX10_feed_34 : decode cX10_feed 34 = .ok (.iload_n 3, 1) := by decide +kernel
theorem dX10_feed_35 : decode cX10_feed 35 = .ok (.iastore, 1) := by decide +kernel
theorem dX10_feed_36 : decode cX10_feed 36 = .ok (.aload_n 0, 1) := by decide +kernel
theorem dX10_feed_37 : decode cX10_feed 37 = .ok (.getfield 24, 3) := by decide +kernel
theorem dX10_feed_40 : decode cX10_feed 40 = .ok (.iconst 3, 1) := by decide +kernel
theorem dX10_feed_41 : decode cX10_feed 41 = .ok (.iload 4, 2) := by decide +kernel
theorem dX10_feed_43 : decode cX10_feed 43 = .ok (.iastore, 1) := by decide +kernel
theorem dX10_feed_44 : decode cX10_feed 44 = .ok (.aload_n 0, 1) := by decide +kernel
theorem dX10_feed_45 : decode cX10_feed 45 = .ok (.getfield 24, 3) := by decide +kernel
theorem dX10_feed_48 : decode cX10_feed 48 = .ok (.iconst 4, 1) := by decide +kernel
theorem dX10_feed_49 : decode cX10_feed 49 = .ok (.iload 5, 2) := by decide +kernel
theorem dX10_feed_51 : decode cX10_feed 51 = .ok (.iastore, 1) := by decide +kernel
theorem dX10_feed_52 : decode cX10_feed 52 = .ok (.iconst 0, 1) := by decide +kernel
theorem dX10_feed_53 : decode cX10_feed 53 = .ok (.istore 6, 2) := by decide +kernel
theorem dX10_feed_55 : decode cX10_feed 55 = .ok (.iload 6, 2) := by decide +kernel
theorem dX10_feed_57 : decode cX10_feed 57 = .ok (.bipush 20, 2) := by decide +kernel
theorem dX10_feed_59 : decode cX10_feed 59 = .ok (.if_icmp .ge 42, 3) := by decide +kernel
theorem dX10_feed_62 : decode cX10_feed 62 = .ok (.aload_n 0, 1) := by decide +kernel
theorem dX10_feed_63 : decode cX10_feed 63 = .ok (.getfield 20, 3) := by decide +kernel
theorem dX10_feed_66 : decode cX10_feed 66 = .ok (.aload_n 0, 1) := by decide +kernel
theorem dX10_feed_67 : decode cX10_feed 67 = .ok (.getfield 90, 3) := by decide +kernel
theorem dX10_feed_70 : decode cX10_feed 70 = .ok (.iload 6, 2) := by decide +kernel
theorem dX10_feed_72 : decode cX10_feed 72 = .ok (.iadd, 1) := by decide +kernel
theorem dX10_feed_73 : decode cX10_feed 73 = .ok (.aload_n 0, 1) := by decide +kernel
theorem dX10_feed_74 : decode cX10_feed 74 = .ok (.getfield 24, 3) := by decide +kernel
theorem dX10_feed_77 : decode cX10_feed 77 = .ok (.iload 6, 2) := by decide +kernel
theorem dX10_feed_79 : decode cX10_feed 79 = .ok (.iconst 4, 1) := by decide +kernel
theorem dX10_feed_80 : decode cX10_feed 80 = .ok (.idiv, 1) := by decide +kernel
theorem dX10_feed_81 : decode cX10_feed 81 = .ok (.iaload, 1) := by decide +kernel
theorem dX10_feed_82 : decode cX10_feed 82 = .ok (.bipush 24, 2) := by decide +kernel
theorem dX10_feed_84 : decode cX10_feed 84 = .ok (.bipush 8, 2) := by decide +kernel
theorem dX10_feed_86 : decode cX10_feed 86 = .ok (.iload 6, 2) := by decide +kernel
theorem dX10_feed_88 : decode cX10_feed 88 = .ok (.iconst 4, 1) := by decide +kernel
theorem dX10_feed_89 : decode cX10_feed 89 = .ok (.irem, 1) := by decide +kernel
theorem dX10_feed_90 : decode cX10_feed 90 = .ok (.imul, 1) := by decide +kernel
theorem dX10_feed_91 : decode cX10_feed 91 = .ok (.isub, 1) := by decide +kernel
theorem dX10_feed_92 : decode cX10_feed 92 = .ok (.ishr, 1) := by decide +kernel
theorem dX10_feed_93 : decode cX10_feed 93 = .ok (.i2b, 1) := by decide +kernel
theorem dX10_feed_94 : decode cX10_feed 94 = .ok (.bastore, 1) := by decide +kernel
theorem dX10_feed_95 : decode cX10_feed 95 = .ok (.iinc 6 1, 3) := by decide +kernel
theorem dX10_feed_98 : decode cX10_feed 98 = .ok (.goto (-43), 3) := by decide +kernel
theorem dX10_feed_101 : decode cX10_feed 101 = .ok (.aload_n 0, 1) := by decide +kernel
theorem dX10_feed_102 : decode cX10_feed 102 = .ok (.dup, 1) := by decide +kernel
theorem dX10_feed_103 : decode cX10_feed 103 = .ok (.getfield 90, 3) := by decide +kernel
theorem dX10_feed_106 : decode cX10_feed 106 = .ok (.bipush 20, 2) := by decide +kernel
theorem dX10_feed_108 : decode cX10_feed 108 = .ok (.iadd, 1) := by decide +kernel
theorem dX10_feed_109 : decode cX10_feed 109 = .ok (.putfield 90, 3) := by decide +kernel
theorem dX10_feed_112 : decode cX10_feed 112 = .ok (.aload_n 0, 1) := by decide +kernel
theorem dX10_feed_113 : decode cX10_feed 113 = .ok (.getfield 90, 3) := by decide +kernel
theorem dX10_feed_116 : decode cX10_feed 116 = .ok (.ireturn, 1) := by decide +kernel
theorem dX10_end_0 : decode cX10_end 0 = .ok (.iload_n 1, 1) := by decide +kernel
theorem dX10_end_1 : decode cX10_end 1 = .ok (.i2l, 1) := by decide +kernel
theorem dX10_end_2 : decode cX10_end 2 = .ok (.lconst 0, 1) := by decide +kernel
theorem dX10_end_3 : decode cX10_end 3 = .ok (.aload_n 0, 1) := by decide +kernel
theorem dX10_end_4 : decode cX10_end 4 = .ok (.getfield 90, 3) := by decide +kernel
theorem dX10_end_7 : decode cX10_end 7 = .ok (.i2l, 1) := by decide +kernel
theorem dX10_end_8 : decode cX10_end 8 = .ok (.invokestatic 82, 3) := by decide +kernel
theorem dX10_end_11 : decode cX10_end 11 = .ok (.ifCond .ne 5, 3) := by decide +kernel
theorem dX10_end_14 : decode cX10_end 14 = .ok (.iconst (-1), 1) := by decide +kernel
theorem dX10_end_15 : decode cX10_end 15 = .ok (.ireturn, 1) := by decide +kernel
theorem dX10_end_16 : decode cX10_end 16 = .ok (.aload_n 0, 1) := by decide +kernel
theorem dX10_end_17 : decode cX10_end 17 = .ok (.iload_n 1, 1) := by decide +kernel
theorem dX10_end_18 : decode cX10_end 18 = .ok (.putfield 90, 3) := by decide +kernel
theorem dX10_end_21 : decode cX10_end 21 = .ok (.iload_n 1, 1) := by decide +kernel
theorem dX10_end_22 : decode cX10_end 22 = .ok (.ireturn, 1) := by decide +kernel
theorem dX10_see_0 : decode cX10_see 0 = .ok (.iload_n 1, 1) := by decide +kernel
theorem dX10_see_1 : decode cX10_see 1 = .ok (.aload_n 0, 1) := by decide +kernel
theorem dX10_see_2 : decode cX10_see 2 = .ok (.getfield 93, 3) := by decide +kernel
theorem dX10_see_5 : decode cX10_see 5 = .ok (.if_icmp .ge 16, 3) := by decide +kernel
theorem dX10_see_8 : decode cX10_see 8 = .ok (.aload_n 0, 1) := by decide +kernel
theorem dX10_see_9 : decode cX10_see 9 = .ok (.getfield 20, 3) := by decide +kernel
theorem dX10_see_12 : decode cX10_see 12 = .ok (.iload_n 1, 1) := by decide +kernel
theorem dX10_see_13 : decode cX10_see 13 = .ok (.baload, 1) := by decide +kernel
theorem dX10_see_14 : decode cX10_see 14 = .ok (.sipush 255, 3) := by decide +kernel
theorem dX10_see_17 : decode cX10_see 17 = .ok (.iand, 1) := by decide +kernel
theorem dX10_see_18 : decode cX10_see 18 = .ok (.goto 4, 3) := by decide +kernel
theorem dX10_see_21 : decode cX10_see 21 = .ok (.iconst (-1), 1) := by decide +kernel
theorem dX10_see_22 : decode cX10_see 22 = .ok (.ireturn, 1) := by decide +kernel
theorem dX10_advance_0 : decode cX10_advance 0 = .ok (.aload_n 0, 1) := by decide +kernel
theorem dX10_advance_1 : decode cX10_advance 1 = .ok (.aload_n 0, 1) := by decide +kernel
theorem dX10_advance_2 : decode cX10_advance 2 = .ok (.getfield 96, 3) := by decide +kernel
theorem dX10_advance_5 : decode cX10_advance 5 = .ok (.invokevirtual 99, 3) := by decide +kernel
theorem dX10_advance_8 : decode cX10_advance 8 = .ok (.bipush 32, 2) := by decide +kernel
theorem dX10_advance_10 : decode cX10_advance 10 = .ok (.if_icmp .eq 16, 3) := by decide +kernel
theorem dX10_advance_13 : decode cX10_advance 13 = .ok (.aload_n 0, 1) := by decide +kernel
theorem dX10_advance_14 : decode cX10_advance 14 = .ok (.aload_n 0, 1) := by decide +kernel
theorem dX10_advance_15 : decode cX10_advance 15 = .ok (.getfield 96, 3) := by decide +kernel
theorem dX10_advance_18 : decode cX10_advance 18 = .ok (.invokevirtual 99, 3) := by decide +kernel
theorem dX10_advance_21 : decode cX10_advance 21 = .ok (.bipush 10, 2) := by decide +kernel
theorem dX10_advance_23 : decode cX10_advance 23 = .ok (.if_icmp .ne 16, 3) := by decide +kernel
theorem dX10_advance_26 : decode cX10_advance 26 = .ok (.aload_n 0, 1) := by decide +kernel
theorem dX10_advance_27 : decode cX10_advance 27 = .ok (.dup, 1) := by decide +kernel
theorem dX10_advance_28 : decode cX10_advance 28 = .ok (.getfield 96, 3) := by decide +kernel
theorem dX10_advance_31 : decode cX10_advance 31 = .ok (.iconst 1, 1) := by decide +kernel
theorem dX10_advance_32 : decode cX10_advance 32 = .ok (.iadd, 1) := by decide +kernel
theorem dX10_advance_33 : decode cX10_advance 33 = .ok (.putfield 96, 3) := by decide +kernel
theorem dX10_advance_36 : decode cX10_advance 36 = .ok (.goto (-36), 3) := by decide +kernel
theorem dX10_advance_39 : decode cX10_advance 39 = .ok (.aload_n 0, 1) := by decide +kernel
theorem dX10_advance_40 : decode cX10_advance 40 = .ok (.aload_n 0, 1) := by decide +kernel
theorem dX10_advance_41 : decode cX10_advance 41 = .ok (.getfield 96, 3) := by decide +kernel
theorem dX10_advance_44 : decode cX10_advance 44 = .ok (.putfield 103, 3) := by decide +kernel
theorem dX10_advance_47 : decode cX10_advance 47 = .ok (.aload_n 0, 1) := by decide +kernel
theorem dX10_advance_48 : decode cX10_advance 48 = .ok (.aload_n 0, 1) := by decide +kernel
theorem dX10_advance_49 : decode cX10_advance 49 = .ok (.getfield 96, 3) := by decide +kernel
theorem dX10_advance_52 : decode cX10_advance 52 = .ok (.invokevirtual 99, 3) := by decide +kernel
theorem dX10_advance_55 : decode cX10_advance 55 = .ok (.istore_n 1, 1) := by decide +kernel
theorem dX10_advance_56 : decode cX10_advance 56 = .ok (.iload_n 1, 1) := by decide +kernel
theorem dX10_advance_57 : decode cX10_advance 57 = .ok (.iconst (-1), 1) := by decide +kernel
theorem dX10_advance_58 : decode cX10_advance 58 = .ok (.if_icmp .ne 11, 3) := by decide +kernel
theorem dX10_advance_61 : decode cX10_advance 61 = .ok (.aload_n 0, 1) := by decide +kernel
theorem dX10_advance_62 : decode cX10_advance 62 = .ok (.iconst 0, 1) := by decide +kernel
theorem dX10_advance_63 : decode cX10_advance 63 = .ok (.putfield 106, 3) := by decide +kernel
theorem dX10_advance_66 : decode cX10_advance 66 = .ok (.goto 173, 3) := by decide +kernel
theorem dX10_advance_69 : decode cX10_advance 69 = .ok (.iload_n 1, 1) := by decide +kernel
theorem dX10_advance_70 : decode cX10_advance 70 = .ok (.i2l, 1) := by decide +kernel
theorem dX10_advance_71 : decode cX10_advance 71 = .ok (.ldc2_w 109, 3) := by decide +kernel
theorem dX10_advance_74 : decode cX10_advance 74 = .ok (.ldc2_w 111, 3) := by decide +kernel
theorem dX10_advance_77 : decode cX10_advance 77 = .ok (.invokestatic 82, 3) := by decide +kernel
theorem dX10_advance_80 : decode cX10_advance 80 = .ok (.ifCond .eq 45, 3) := by decide +kernel
theorem dX10_advance_83 : decode cX10_advance 83 = .ok (.aload_n 0, 1) := by decide +kernel
theorem dX10_advance_84 : decode cX10_advance 84 = .ok (.aload_n 0, 1) := by decide +kernel
theorem dX10_advance_85 : decode cX10_advance 85 = .ok (.getfield 96, 3) := by decide +kernel
theorem dX10_advance_88 : decode cX10_advance 88 = .ok (.invokevirtual 99, 3) := by decide +kernel
theorem dX10_advance_91 : decode cX10_advance 91 = .ok (.i2l, 1) := by decide +kernel
theorem dX10_advance_92 : decode cX10_advance 92 = .ok (.ldc2_w 109, 3) := by decide +kernel
theorem dX10_advance_95 : decode cX10_advance 95 = .ok (.ldc2_w 111, 3) := by decide +kernel
theorem dX10_advance_98 : decode cX10_advance 98 = .ok (.invokestatic 82, 3) := by decide +kernel
theorem dX10_advance_101 : decode cX10_advance 101 = .ok (.ifCond .eq 16, 3) := by decide +kernel
theorem dX10_advance_104 : decode cX10_advance 104 = .ok (.aload_n 0, 1) := by decide +kernel
theorem dX10_advance_105 : decode cX10_advance 105 = .ok (.dup, 1) := by decide +kernel
theorem dX10_advance_106 : decode cX10_advance 106 = .ok (.getfield 96, 3) := by decide +kernel
theorem dX10_advance_109 : decode cX10_advance 109 = .ok (.iconst 1, 1) := by decide +kernel
theorem dX10_advance_110 : decode cX10_advance 110 = .ok (.iadd, 1) := by decide +kernel
theorem dX10_advance_111 : decode cX10_advance 111 = .ok (.putfield 96, 3) := by decide +kernel
theorem dX10_advance_114 : decode cX10_advance 114 = .ok (.goto (-31), 3) := by decide +kernel
theorem dX10_advance_117 : decode cX10_advance 117 = .ok (.aload_n 0, 1) := by decide +kernel
theorem dX10_advance_118 : decode cX10_advance 118 = .ok (.iconst 1, 1) := by decide +kernel
theorem dX10_advance_119 : decode cX10_advance 119 = .ok (.putfield 106, 3) := by decide +kernel
theorem dX10_advance_122 : decode cX10_advance 122 = .ok (.goto 117, 3) := by decide +kernel
theorem dX10_advance_125 : decode cX10_advance 125 = .ok (.iload_n 1, 1) := by decide +kernel
theorem dX10_advance_126 : decode cX10_advance 126 = .ok (.i2l, 1) := by decide +kernel
theorem dX10_advance_127 : decode cX10_advance 127 = .ok (.ldc2_w 113, 3) := by decide +kernel
theorem dX10_advance_130 : decode cX10_advance 130 = .ok (.ldc2_w 115, 3) := by decide +kernel
theorem dX10_advance_133 : decode cX10_advance 133 = .ok (.invokestatic 82, 3) := by decide +kernel
theorem dX10_advance_136 : decode cX10_advance 136 = .ok (.ifCond .eq 78, 3) := by decide +kernel
theorem dX10_advance_139 : decode cX10_advance 139 = .ok (.aload_n 0, 1) := by decide +kernel
theorem dX10_advance_140 : decode cX10_advance 140 = .ok (.iconst 0, 1) := by decide +kernel
theorem dX10_advance_141 : decode cX10_advance 141 = .ok (.putfield 117, 3) := by decide +kernel
theorem dX10_advance_144 : decode cX10_advance 144 = .ok (.aload_n 0, 1) := by decide +kernel
theorem dX10_advance_145 : decode cX10_advance 145 = .ok (.aload_n 0, 1) := by decide +kernel
theorem dX10_advance_146 : decode cX10_advance 146 = .ok (.getfield 96, 3) := by decide +kernel
theorem dX10_advance_149 : decode cX10_advance 149 = .ok (.invokevirtual 99, 3) := by decide +kernel
theorem dX10_advance_152 : decode cX10_advance 152 = .ok (.i2l, 1) := by decide +kernel
theorem dX10_advance_153 : decode cX10_advance 153 = .ok (.ldc2_w 113, 3) := by decide +kernel
theorem dX10_advance_156 : decode cX10_advance 156 = .ok (.ldc2_w 115, 3) := by decide +kernel
theorem dX10_advance_159 : decode cX10_advance 159 = .ok (.invokestatic 82, 3) := by decide +kernel
theorem dX10_advance_162 : decode cX10_advance 162 = .ok (.ifCond .eq 44, 3) := by decide +kernel
theorem dX10_advance_165 : decode cX10_advance 165 = .ok (.aload_n 0, 1) := by decide +kernel
theorem dX10_advance_166 : decode cX10_advance 166 = .ok (.ldc 120, 2) := by decide +kernel
theorem dX10_advance_168 : decode cX10_advance 168 = .ok (.bipush 10, 2) := by decide +kernel
theorem dX10_advance_170 : decode cX10_advance 170 = .ok (.aload_n 0, 1) := by decide +kernel
theorem dX10_advance_171 : decode cX10_advance 171 = .ok (.getfield 117, 3) := by decide +kernel
theorem dX10_advance_174 : decode cX10_advance 174 = .ok (.imul, 1) := by decide +kernel
theorem dX10_advance_175 : decode cX10_advance 175 = .ok (.aload_n 0, 1) := by decide +kernel
theorem dX10_advance_176 : decode cX10_advance 176 = .ok (.aload_n 0, 1) := by decide +kernel
theorem dX10_advance_177 : decode cX10_advance 177 = .ok (.getfield 96, 3) := by decide +kernel
theorem dX10_advance_180 : decode cX10_advance 180 = .ok (.invokevirtual 99, 3) := by decide +kernel
theorem dX10_advance_183 : decode cX10_advance 183 = .ok (.iadd, 1) := by decide +kernel
theorem dX10_advance_184 : decode cX10_advance 184 = .ok (.bipush 48, 2) := by decide +kernel
theorem dX10_advance_186 : decode cX10_advance 186 = .ok (.isub, 1) := by decide +kernel
theorem dX10_advance_187 : decode cX10_advance 187 = .ok (.invokestatic 121, 3) := by decide +kernel
theorem dX10_advance_190 : decode cX10_advance 190 = .ok (.putfield 117, 3) := by decide +kernel
theorem dX10_advance_193 : decode cX10_advance 193 = .ok (.aload_n 0, 1) := by decide +kernel
theorem dX10_advance_194 : decode cX10_advance 194 = .ok (.dup, 1) := by decide +kernel
theorem dX10_advance_195 : decode cX10_advance 195 = .ok (.getfield 96, 3) := by decide +kernel
theorem dX10_advance_198 : decode cX10_advance 198 = .ok (.iconst 1, 1) := by decide +kernel
theorem dX10_advance_199 : decode cX10_advance 199 = .ok (.iadd, 1) := by decide +kernel
theorem dX10_advance_200 : decode cX10_advance 200 = .ok (.putfield 96, 3) := by decide +kernel
theorem dX10_advance_203 : decode cX10_advance 203 = .ok (.goto (-59), 3) := by decide +kernel
theorem dX10_advance_206 : decode cX10_advance 206 = .ok (.aload_n 0, 1) := by decide +kernel
theorem dX10_advance_207 : decode cX10_advance 207 = .ok (.iconst 2, 1) := by decide +kernel
theorem dX10_advance_208 : decode cX10_advance 208 = .ok (.putfield 106, 3) := by decide +kernel
theorem dX10_advance_211 : decode cX10_advance 211 = .ok (.goto 28, 3) := by decide +kernel
theorem dX10_advance_214 : decode cX10_advance 214 = .ok (.aload_n 0, 1) := by decide +kernel
theorem dX10_advance_215 : decode cX10_advance 215 = .ok (.iload_n 1, 1) := by decide +kernel
theorem dX10_advance_216 : decode cX10_advance 216 = .ok (.bipush 59, 2) := by decide +kernel
theorem dX10_advance_218 : decode cX10_advance 218 = .ok (.if_icmp .ne 7, 3) := by decide +kernel
theorem dX10_advance_221 : decode cX10_advance 221 = .ok (.iconst 3, 1) := by decide +kernel
theorem dX10_advance_222 : decode cX10_advance 222 = .ok (.goto 4, 3) := by decide +kernel
theorem dX10_advance_225 : decode cX10_advance 225 = .ok (.iconst 4, 1) := by decide +kernel
theorem dX10_advance_226 : decode cX10_advance 226 = .ok (.putfield 106, 3) := by decide +kernel
theorem dX10_advance_229 : decode cX10_advance 229 = .ok (.aload_n 0, 1) := by decide +kernel
theorem dX10_advance_230 : decode cX10_advance 230 = .ok (.dup, 1) := by decide +kernel
theorem dX10_advance_231 : decode cX10_advance 231 = .ok (.getfield 96, 3) := by decide +kernel
theorem dX10_advance_234 : decode cX10_advance 234 = .ok (.iconst 1, 1) := by decide +kernel
theorem dX10_advance_235 : decode cX10_advance 235 = .ok (.iadd, 1) := by decide +kernel
theorem dX10_advance_236 : decode cX10_advance 236 = .ok (.putfield 96, 3) := by decide +kernel
theorem dX10_advance_239 : decode cX10_advance 239 = .ok (.return_, 1) := by decide +kernel
theorem dX10_good_0 : decode cX10_good 0 = .ok (.aload_n 0, 1) := by decide +kernel
theorem dX10_good_1 : decode cX10_good 1 = .ok (.getfield 127, 3) := by decide +kernel
theorem dX10_good_4 : decode cX10_good 4 = .ok (.ifCond .ne 7, 3) := by decide +kernel
theorem dX10_good_7 : decode cX10_good 7 = .ok (.iconst 1, 1) := by decide +kernel
theorem dX10_good_8 : decode cX10_good 8 = .ok (.goto 4, 3) := by decide +kernel
theorem dX10_good_11 : decode cX10_good 11 = .ok (.iconst 0, 1) := by decide +kernel
theorem dX10_good_12 : decode cX10_good 12 = .ok (.ireturn, 1) := by decide +kernel
theorem dX10_errs_0 : decode cX10_errs 0 = .ok (.aload_n 0, 1) := by decide +kernel
theorem dX10_errs_1 : decode cX10_errs 1 = .ok (.invokevirtual 130, 3) := by decide +kernel
theorem dX10_errs_4 : decode cX10_errs 4 = .ok (.ifCond .ne 4, 3) := by decide +kernel
theorem dX10_errs_7 : decode cX10_errs 7 = .ok (.return_, 1) := by decide +kernel
theorem dX10_errs_8 : decode cX10_errs 8 = .ok (.aload_n 0, 1) := by decide +kernel
theorem dX10_errs_9 : decode cX10_errs 9 = .ok (.iload_n 1, 1) := by decide +kernel
theorem dX10_errs_10 : decode cX10_errs 10 = .ok (.putfield 127, 3) := by decide +kernel
theorem dX10_errs_13 : decode cX10_errs 13 = .ok (.aload_n 0, 1) := by decide +kernel
theorem dX10_errs_14 : decode cX10_errs 14 = .ok (.aload_n 0, 1) := by decide +kernel
theorem dX10_errs_15 : decode cX10_errs 15 = .ok (.getfield 103, 3) := by decide +kernel
theorem dX10_errs_18 : decode cX10_errs 18 = .ok (.putfield 27, 3) := by decide +kernel
theorem dX10_errs_21 : decode cX10_errs 21 = .ok (.return_, 1) := by decide +kernel
theorem dX10_is_0 : decode cX10_is 0 = .ok (.aload_n 0, 1) := by decide +kernel
theorem dX10_is_1 : decode cX10_is 1 = .ok (.invokevirtual 130, 3) := by decide +kernel
theorem dX10_is_4 : decode cX10_is 4 = .ok (.ifCond .eq 31, 3) := by decide +kernel
theorem dX10_is_7 : decode cX10_is 7 = .ok (.aload_n 0, 1) := by decide +kernel
theorem dX10_is_8 : decode cX10_is 8 = .ok (.getfield 106, 3) := by decide +kernel
theorem dX10_is_11 : decode cX10_is 11 = .ok (.iconst 1, 1) := by decide +kernel
theorem dX10_is_12 : decode cX10_is 12 = .ok (.if_icmp .ne 23, 3) := by decide +kernel
theorem dX10_is_15 : decode cX10_is 15 = .ok (.aload_n 0, 1) := by decide +kernel
theorem dX10_is_16 : decode cX10_is 16 = .ok (.getfield 96, 3) := by decide +kernel
theorem dX10_is_19 : decode cX10_is 19 = .ok (.aload_n 0, 1) := by decide +kernel
theorem dX10_is_20 : decode cX10_is 20 = .ok (.getfield 103, 3) := by decide +kernel
theorem dX10_is_23 : decode cX10_is 23 = .ok (.isub, 1) := by decide +kernel
theorem dX10_is_24 : decode cX10_is 24 = .ok (.aload_n 1, 1) := by decide +kernel
theorem dX10_is_25 : decode cX10_is 25 = .ok (.invokevirtual 133, 3) := by decide +kernel
theorem dX10_is_28 : decode cX10_is 28 = .ok (.if_icmp .ne 7, 3) := by decide +kernel
theorem dX10_is_31 : decode cX10_is 31 = .ok (.iconst 1, 1) := by decide +kernel
theorem dX10_is_32 : decode cX10_is 32 = .ok (.goto 4, 3) := by decide +kernel
theorem dX10_is_35 : decode cX10_is 35 = .ok (.iconst 0, 1) := by decide +kernel
theorem dX10_is_36 : decode cX10_is 36 = .ok (.istore_n 2, 1) := by decide +kernel
theorem dX10_is_37 : decode cX10_is 37 = .ok (.iconst 0, 1) := by decide +kernel
theorem dX10_is_38 : decode cX10_is 38 = .ok (.istore_n 3, 1) := by decide +kernel
theorem dX10_is_39 : decode cX10_is 39 = .ok (.iload_n 3, 1) := by decide +kernel
theorem dX10_is_40 : decode cX10_is 40 = .ok (.aload_n 1, 1) := by decide +kernel
theorem dX10_is_41 : decode cX10_is 41 = .ok (.invokevirtual 133, 3) := by decide +kernel
theorem dX10_is_44 : decode cX10_is 44 = .ok (.if_icmp .ge 38, 3) := by decide +kernel
theorem dX10_is_47 : decode cX10_is 47 = .ok (.iload_n 2, 1) := by decide +kernel
theorem dX10_is_48 : decode cX10_is 48 = .ok (.ifCond .eq 34, 3) := by decide +kernel
theorem dX10_is_51 : decode cX10_is 51 = .ok (.aload_n 0, 1) := by decide +kernel
theorem dX10_is_52 : decode cX10_is 52 = .ok (.getfield 20, 3) := by decide +kernel
theorem dX10_is_55 : decode cX10_is 55 = .ok (.aload_n 0, 1) := by decide +kernel
theorem dX10_is_56 : decode cX10_is 56 = .ok (.getfield 103, 3) := by decide +kernel
theorem dX10_is_59 : decode cX10_is 59 = .ok (.iload_n 3, 1) := by decide +kernel
theorem dX10_is_60 : decode cX10_is 60 = .ok (.iadd, 1) := by decide +kernel
theorem dX10_is_61 : decode cX10_is 61 = .ok (.baload, 1) := by decide +kernel
theorem dX10_is_62 : decode cX10_is 62 = .ok (.aload_n 1, 1) := by decide +kernel
theorem dX10_is_63 : decode cX10_is 63 = .ok (.iload_n 3, 1) := by decide +kernel
theorem dX10_is_64 : decode cX10_is 64 = .ok (.invokevirtual 139, 3) := by decide +kernel
theorem dX10_is_67 : decode cX10_is 67 = .ok (.if_icmp .ne 7, 3) := by decide +kernel
theorem dX10_is_70 : decode cX10_is 70 = .ok (.iconst 1, 1) := by decide +kernel
theorem dX10_is_71 : decode cX10_is 71 = .ok (.goto 4, 3) := by decide +kernel
theorem dX10_is_74 : decode cX10_is 74 = .ok (.iconst 0, 1) := by decide +kernel
theorem dX10_is_75 : decode cX10_is 75 = .ok (.istore_n 2, 1) := by decide +kernel
theorem dX10_is_76 : decode cX10_is 76 = .ok (.iinc 3 1, 3) := by decide +kernel
theorem dX10_is_79 : decode cX10_is 79 = .ok (.goto (-40), 3) := by decide +kernel
theorem dX10_is_82 : decode cX10_is 82 = .ok (.iload_n 2, 1) := by decide +kernel
theorem dX10_is_83 : decode cX10_is 83 = .ok (.ireturn, 1) := by decide +kernel
theorem dX10_takes_0 : decode cX10_takes 0 = .ok (.aload_n 0, 1) := by decide +kernel
theorem dX10_takes_1 : decode cX10_takes 1 = .ok (.aload_n 1, 1) := by decide +kernel
theorem dX10_takes_2 : decode cX10_takes 2 = .ok (.invokevirtual 143, 3) := by decide +kernel
theorem dX10_takes_5 : decode cX10_takes 5 = .ok (.istore_n 2, 1) := by decide +kernel
theorem dX10_takes_6 : decode cX10_takes 6 = .ok (.iload_n 2, 1) := by decide +kernel
theorem dX10_takes_7 : decode cX10_takes 7 = .ok (.ifCond .eq 7, 3) := by decide +kernel
theorem dX10_takes_10 : decode cX10_takes 10 = .ok (.aload_n 0, 1) := by decide +kernel
theorem dX10_takes_11 : decode cX10_takes 11 = .ok (.invokevirtual 147, 3) := by decide +kernel
theorem dX10_takes_14 : decode cX10_takes 14 = .ok (.iload_n 2, 1) := by decide +kernel
theorem dX10_takes_15 : decode cX10_takes 15 = .ok (.ireturn, 1) := by decide +kernel
theorem dX10_needs_0 : decode cX10_needs 0 = .ok (.aload_n 0, 1) := by decide +kernel
theorem dX10_needs_1 : decode cX10_needs 1 = .ok (.aload_n 1, 1) := by decide +kernel
theorem dX10_needs_2 : decode cX10_needs 2 = .ok (.invokevirtual 150, 3) := by decide +kernel
theorem dX10_needs_5 : decode cX10_needs 5 = .ok (.ifCond .ne 8, 3) := by decide +kernel
theorem dX10_needs_8 : decode cX10_needs 8 = .ok (.aload_n 0, 1) := by decide +kernel
theorem dX10_needs_9 : decode cX10_needs 9 = .ok (.iconst 1, 1) := by decide +kernel
theorem dX10_needs_10 : decode cX10_needs 10 = .ok (.invokevirtual 153, 3) := by decide +kernel
theorem dX10_needs_13 : decode cX10_needs 13 = .ok (.return_, 1) := by decide +kernel
theorem dX10_number_0 : decode cX10_number 0 = .ok (.aload_n 0, 1) := by decide +kernel
theorem dX10_number_1 : decode cX10_number 1 = .ok (.invokevirtual 130, 3) := by decide +kernel
theorem dX10_number_4 : decode cX10_number 4 = .ok (.ifCond .eq 16, 3) := by decide +kernel
theorem dX10_number_7 : decode cX10_number 7 = .ok (.aload_n 0, 1) := by decide +kernel
theorem dX10_number_8 : decode cX10_number 8 = .ok (.getfield 106, 3) := by decide +kernel
theorem dX10_number_11 : decode cX10_number 11 = .ok (.iconst 2, 1) := by decide +kernel
theorem dX10_number_12 : decode cX10_number 12 = .ok (.if_icmp .eq 8, 3) := by decide +kernel
theorem dX10_number_15 : decode cX10_number 15 = .ok (.aload_n 0, 1) := by decide +kernel
theorem dX10_number_16 : decode cX10_number 16 = .ok (.iconst 1, 1) := by decide +kernel
theorem dX10_number_17 : decode cX10_number 17 = .ok (.invokevirtual 153, 3) := by decide +kernel
theorem dX10_number_20 : decode cX10_number 20 = .ok (.aload_n 0, 1) := by decide +kernel
theorem dX10_number_21 : decode cX10_number 21 = .ok (.invokevirtual 130, 3) := by decide +kernel
theorem dX10_number_24 : decode cX10_number 24 = .ok (.ifCond .eq 23, 3) := by decide +kernel
theorem dX10_number_27 : decode cX10_number 27 = .ok (.aload_n 0, 1) := by decide +kernel
theorem dX10_number_28 : decode cX10_number 28 = .ok (.getfield 117, 3) := by decide +kernel
theorem dX10_number_31 : decode cX10_number 31 = .ok (.i2l, 1) := by decide +kernel
theorem dX10_number_32 : decode cX10_number 32 = .ok (.iload_n 1, 1) := by decide +kernel
theorem dX10_number_33 : decode cX10_number 33 = .ok (.i2l, 1) := by decide +kernel
theorem dX10_number_34 : decode cX10_number 34 = .ok (.iload_n 2, 1) := by decide +kernel
theorem dX10_number_35 : decode cX10_number 35 = .ok (.i2l, 1) := by decide +kernel
theorem dX10_number_36 : decode cX10_number 36 = .ok (.invokestatic 82, 3) := by decide +kernel
theorem dX10_number_39 : decode cX10_number 39 = .ok (.ifCond .ne 8, 3) := by decide +kernel
theorem dX10_number_42 : decode cX10_number 42 = .ok (.aload_n 0, 1) := by decide +kernel
theorem dX10_number_43 : decode cX10_number 43 = .ok (.iconst 2, 1) := by decide +kernel
theorem dX10_number_44 : decode cX10_number 44 = .ok (.invokevirtual 153, 3) := by decide +kernel
theorem dX10_number_47 : decode cX10_number 47 = .ok (.aload_n 0, 1) := by decide +kernel
theorem dX10_number_48 : decode cX10_number 48 = .ok (.invokevirtual 130, 3) := by decide +kernel
theorem dX10_number_51 : decode cX10_number 51 = .ok (.ifCond .ne 5, 3) := by decide +kernel
theorem dX10_number_54 : decode cX10_number 54 = .ok (.iconst 0, 1) := by decide +kernel
theorem dX10_number_55 : decode cX10_number 55 = .ok (.ireturn, 1) := by decide +kernel
theorem dX10_number_56 : decode cX10_number 56 = .ok (.aload_n 0, 1) := by decide +kernel
theorem dX10_number_57 : decode cX10_number 57 = .ok (.getfield 117, 3) := by decide +kernel
theorem dX10_number_60 : decode cX10_number 60 = .ok (.istore_n 3, 1) := by decide +kernel
theorem dX10_number_61 : decode cX10_number 61 = .ok (.aload_n 0, 1) := by decide +kernel
theorem dX10_number_62 : decode cX10_number 62 = .ok (.invokevirtual 147, 3) := by decide +kernel
theorem dX10_number_65 : decode cX10_number 65 = .ok (.iload_n 3, 1) := by decide +kernel
theorem dX10_number_66 : decode cX10_number 66 = .ok (.ireturn, 1) := by decide +kernel
theorem dX10_told_0 : decode cX10_told 0 = .ok (.aload_n 0, 1) := by decide +kernel
theorem dX10_told_1 : decode cX10_told 1 = .ok (.aload_n 1, 1) := by decide +kernel
theorem dX10_told_2 : decode cX10_told 2 = .ok (.invokevirtual 157, 3) := by decide +kernel
theorem dX10_told_5 : decode cX10_told 5 = .ok (.aload_n 0, 1) := by decide +kernel
theorem dX10_told_6 : decode cX10_told 6 = .ok (.iload_n 2, 1) := by decide +kernel
theorem dX10_told_7 : decode cX10_told 7 = .ok (.iload_n 3, 1) := by decide +kernel
theorem dX10_told_8 : decode cX10_told 8 = .ok (.invokevirtual 161, 3) := by decide +kernel
theorem dX10_told_11 : decode cX10_told 11 = .ok (.ireturn, 1) := by decide +kernel
theorem dX10_fault_0 : decode cX10_fault 0 = .ok (.iload_n 1, 1) := by decide +kernel
theorem dX10_fault_1 : decode cX10_fault 1 = .ok (.ifCond .ne 10, 3) := by decide +kernel
theorem dX10_fault_4 : decode cX10_fault 4 = .ok (.aload_n 0, 1) := by decide +kernel
theorem dX10_fault_5 : decode cX10_fault 5 = .ok (.getfield 127, 3) := by decide +kernel
theorem dX10_fault_8 : decode cX10_fault 8 = .ok (.goto 16, 3) := by decide +kernel
theorem dX10_fault_11 : decode cX10_fault 11 = .ok (.iload_n 1, 1) := by decide +kernel
theorem dX10_fault_12 : decode cX10_fault 12 = .ok (.iconst 1, 1) := by decide +kernel
theorem dX10_fault_13 : decode cX10_fault 13 = .ok (.if_icmp .ne 10, 3) := by decide +kernel
theorem dX10_fault_16 : decode cX10_fault 16 = .ok (.aload_n 0, 1) := by decide +kernel
theorem dX10_fault_17 : decode cX10_fault 17 = .ok (.getfield 27, 3) := by decide +kernel
theorem dX10_fault_20 : decode cX10_fault 20 = .ok (.goto 4, 3) := by decide +kernel
theorem dX10_fault_23 : decode cX10_fault 23 = .ok (.iconst (-1), 1) := by decide +kernel
theorem dX10_fault_24 : decode cX10_fault 24 = .ok (.ireturn, 1) := by decide +kernel
theorem dX10_freshRoom_0 : decode cX10_freshRoom 0 = .ok (.aload_n 0, 1) := by decide +kernel
theorem dX10_freshRoom_1 : decode cX10_freshRoom 1 = .ok (.aload_n 1, 1) := by decide +kernel
theorem dX10_freshRoom_2 : decode cX10_freshRoom 2 = .ok (.iconst 0, 1) := by decide +kernel
theorem dX10_freshRoom_3 : decode cX10_freshRoom 3 = .ok (.aload_n 0, 1) := by decide +kernel
theorem dX10_freshRoom_4 : decode cX10_freshRoom 4 = .ok (.getfield 31, 3) := by decide +kernel
theorem dX10_freshRoom_7 : decode cX10_freshRoom 7 = .ok (.iconst 0, 1) := by decide +kernel
theorem dX10_freshRoom_8 : decode cX10_freshRoom 8 = .ok (.iaload, 1) := by decide +kernel
theorem dX10_freshRoom_9 : decode cX10_freshRoom 9 = .ok (.iconst 1, 1) := by decide +kernel
theorem dX10_freshRoom_10 : decode cX10_freshRoom 10 = .ok (.isub, 1) := by decide +kernel
theorem dX10_freshRoom_11 : decode cX10_freshRoom 11 = .ok (.invokevirtual 164, 3) := by decide +kernel
theorem dX10_freshRoom_14 : decode cX10_freshRoom 14 = .ok (.ireturn, 1) := by decide +kernel
theorem dX10_readFirst_0 : decode cX10_readFirst 0 = .ok (.aload_n 0, 1) := by decide +kernel
theorem dX10_readFirst_1 : decode cX10_readFirst 1 = .ok (.ldc 168, 2) := by decide +kernel
theorem dX10_readFirst_3 : decode cX10_readFirst 3 = .ok (.invokevirtual 157, 3) := by decide +kernel
theorem dX10_readFirst_6 : decode cX10_readFirst 6 = .ok (.aload_n 0, 1) := by decide +kernel
theorem dX10_readFirst_7 : decode cX10_readFirst 7 = .ok (.getfield 31, 3) := by decide +kernel
theorem dX10_readFirst_10 : decode cX10_readFirst 10 = .ok (.iconst 0, 1) := by decide +kernel
theorem dX10_readFirst_11 : decode cX10_readFirst 11 = .ok (.aload_n 0, 1) := by decide +kernel
theorem dX10_readFirst_12 : decode cX10_readFirst 12 = .ok (.ldc 170, 2) := by decide +kernel
theorem dX10_readFirst_14 : decode cX10_readFirst 14 = .ok (.iconst 1, 1) := by decide +kernel
theorem dX10_readFirst_15 : decode cX10_readFirst 15 = .ok (.bipush 8, 2) := by decide +kernel
theorem dX10_readFirst_17 : decode cX10_readFirst 17 = .ok (.invokevirtual 164, 3) := by decide +kernel
theorem dX10_readFirst_20 : decode cX10_readFirst 20 = .ok (.iastore, 1) := by decide +kernel
theorem dX10_readFirst_21 : decode cX10_readFirst 21 = .ok (.aload_n 0, 1) := by decide +kernel
theorem dX10_readFirst_22 : decode cX10_readFirst 22 = .ok (.getfield 31, 3) := by decide +kernel
theorem dX10_readFirst_25 : decode cX10_readFirst 25 = .ok (.iconst 1, 1) := by decide +kernel
theorem dX10_readFirst_26 : decode cX10_readFirst 26 = .ok (.aload_n 0, 1) := by decide +kernel
theorem dX10_readFirst_27 : decode cX10_readFirst 27 = .ok (.ldc 172, 2) := by decide +kernel
theorem dX10_readFirst_29 : decode cX10_readFirst 29 = .ok (.iconst 1, 1) := by decide +kernel
theorem dX10_readFirst_30 : decode cX10_readFirst 30 = .ok (.bipush 14, 2) := by decide +kernel
theorem dX10_readFirst_32 : decode cX10_readFirst 32 = .ok (.invokevirtual 164, 3) := by decide +kernel
theorem dX10_readFirst_35 : decode cX10_readFirst 35 = .ok (.iastore, 1) := by decide +kernel
theorem dX10_readFirst_36 : decode cX10_readFirst 36 = .ok (.aload_n 0, 1) := by decide +kernel
theorem dX10_readFirst_37 : decode cX10_readFirst 37 = .ok (.getfield 31, 3) := by decide +kernel
theorem dX10_readFirst_40 : decode cX10_readFirst 40 = .ok (.iconst 2, 1) := by decide +kernel
theorem dX10_readFirst_41 : decode cX10_readFirst 41 = .ok (.aload_n 0, 1) := by decide +kernel
theorem dX10_readFirst_42 : decode cX10_readFirst 42 = .ok (.ldc 174, 2) := by decide +kernel
theorem dX10_readFirst_44 : decode cX10_readFirst 44 = .ok (.iconst 0, 1) := by decide +kernel
theorem dX10_readFirst_45 : decode cX10_readFirst 45 = .ok (.iconst 3, 1) := by decide +kernel
theorem dX10_readFirst_46 : decode cX10_readFirst 46 = .ok (.invokevirtual 164, 3) := by decide +kernel
theorem dX10_readFirst_49 : decode cX10_readFirst 49 = .ok (.iastore, 1) := by decide +kernel
theorem dX10_readFirst_50 : decode cX10_readFirst 50 = .ok (.aload_n 0, 1) := by decide +kernel
theorem dX10_readFirst_51 : decode cX10_readFirst 51 = .ok (.getfield 31, 3) := by decide +kernel
theorem dX10_readFirst_54 : decode cX10_readFirst 54 = .ok (.iconst 3, 1) := by decide +kernel
theorem dX10_readFirst_55 : decode cX10_readFirst 55 = .ok (.aload_n 0, 1) := by decide +kernel
theorem dX10_readFirst_56 : decode cX10_readFirst 56 = .ok (.ldc 176, 2) := by decide +kernel
theorem dX10_readFirst_58 : decode cX10_readFirst 58 = .ok (.iconst 0, 1) := by decide +kernel
theorem dX10_readFirst_59 : decode cX10_readFirst 59 = .ok (.bipush 10, 2) := by decide +kernel
theorem dX10_readFirst_61 : decode cX10_readFirst 61 = .ok (.invokevirtual 164, 3) := by decide +kernel
theorem dX10_readFirst_64 : decode cX10_readFirst 64 = .ok (.iastore, 1) := by decide +kernel
theorem dX10_readFirst_65 : decode cX10_readFirst 65 = .ok (.return_, 1) := by decide +kernel
theorem dX10_readDoor_0 : decode cX10_readDoor 0 = .ok (.bipush 10, 2) := by decide +kernel
theorem dX10_readDoor_2 : decode cX10_readDoor 2 = .ok (.iconst 3, 1) := by decide +kernel
theorem dX10_readDoor_3 : decode cX10_readDoor 3 = .ok (.aload_n 0, 1) := by decide +kernel
theorem dX10_readDoor_4 : decode cX10_readDoor 4 = .ok (.getfield 31, 3) := by decide +kernel
theorem dX10_readDoor_7 : decode cX10_readDoor 7 = .ok (.iconst 4, 1) := by decide +kernel
theorem dX10_readDoor_8 : decode cX10_readDoor 8 = .ok (.iaload, 1) := by decide +kernel
theorem dX10_readDoor_9 : decode cX10_readDoor 9 = .ok (.imul, 1) := by decide +kernel
theorem dX10_readDoor_10 : decode cX10_readDoor 10 = .ok (.iadd, 1) := by decide +kernel
theorem dX10_readDoor_11 : decode cX10_readDoor 11 = .ok (.istore_n 1, 1) := by decide +kernel
theorem dX10_readDoor_12 : decode cX10_readDoor 12 = .ok (.aload_n 0, 1) := by decide +kernel
theorem dX10_readDoor_13 : decode cX10_readDoor 13 = .ok (.getfield 31, 3) := by decide +kernel
theorem dX10_readDoor_16 : decode cX10_readDoor 16 = .ok (.iload_n 1, 1) := by decide +kernel
theorem dX10_readDoor_17 : decode cX10_readDoor 17 = .ok (.aload_n 0, 1) := by decide +kernel
theorem dX10_readDoor_18 : decode cX10_readDoor 18 = .ok (.iconst 0, 1) := by decide +kernel
theorem dX10_readDoor_19 : decode cX10_readDoor 19 = .ok (.aload_n 0, 1) := by decide +kernel
theorem dX10_readDoor_20 : decode cX10_readDoor 20 = .ok (.getfield 31, 3) := by decide +kernel
theorem dX10_readDoor_23 : decode cX10_readDoor 23 = .ok (.iconst 0, 1) := by decide +kernel
theorem dX10_readDoor_24 : decode cX10_readDoor 24 = .ok (.iaload, 1) := by decide +kernel
theorem dX10_readDoor_25 : decode cX10_readDoor 25 = .ok (.iconst 1, 1) := by decide +kernel
theorem dX10_readDoor_26 : decode cX10_readDoor 26 = .ok (.isub, 1) := by decide +kernel
theorem dX10_readDoor_27 : decode cX10_readDoor 27 = .ok (.invokevirtual 161, 3) := by decide +kernel
theorem dX10_readDoor_30 : decode cX10_readDoor 30 = .ok (.iastore, 1) := by decide +kernel
theorem dX10_readDoor_31 : decode cX10_readDoor 31 = .ok (.aload_n 0, 1) := by decide +kernel
theorem dX10_readDoor_32 : decode cX10_readDoor 32 = .ok (.ldc 178, 2) := by decide +kernel
theorem dX10_readDoor_34 : decode cX10_readDoor 34 = .ok (.invokevirtual 157, 3) := by decide +kernel
theorem dX10_readDoor_37 : decode cX10_readDoor 37 = .ok (.aload_n 0, 1) := by decide +kernel
theorem dX10_readDoor_38 : decode cX10_readDoor 38 = .ok (.invokevirtual 130, 3) := by decide +kernel
theorem dX10_readDoor_41 : decode cX10_readDoor 41 = .ok (.ifCond .eq 29, 3) := by decide +kernel
theorem dX10_readDoor_44 : decode cX10_readDoor 44 = .ok (.aload_n 0, 1) := by decide +kernel
theorem dX10_readDoor_45 : decode cX10_readDoor 45 = .ok (.getfield 106, 3) := by decide +kernel
theorem dX10_readDoor_48 : decode cX10_readDoor 48 = .ok (.iconst 2, 1) := by decide +kernel
theorem dX10_readDoor_49 : decode cX10_readDoor 49 = .ok (.if_icmp .ne 21, 3) := by decide +kernel
theorem dX10_readDoor_52 : decode cX10_readDoor 52 = .ok (.aload_n 0, 1) := by decide +kernel
theorem dX10_readDoor_53 : decode cX10_readDoor 53 = .ok (.getfield 117, 3) := by decide +kernel
theorem dX10_readDoor_56 : decode cX10_readDoor 56 = .ok (.aload_n 0, 1) := by decide +kernel
theorem dX10_readDoor_57 : decode cX10_readDoor 57 = .ok (.getfield 31, 3) := by decide +kernel
theorem dX10_readDoor_60 : decode cX10_readDoor 60 = .ok (.iload_n 1, 1) := by decide +kernel
theorem dX10_readDoor_61 : decode cX10_readDoor 61 = .ok (.iaload, 1) := by decide +kernel
theorem dX10_readDoor_62 : decode cX10_readDoor 62 = .ok (.if_icmp .ne 8, 3) := by decide +kernel
theorem dX10_readDoor_65 : decode cX10_readDoor 65 = .ok (.aload_n 0, 1) := by decide +kernel
theorem dX10_readDoor_66 : decode cX10_readDoor 66 = .ok (.iconst 2, 1) := by decide +kernel
theorem dX10_readDoor_67 : decode cX10_readDoor 67 = .ok (.invokevirtual 153, 3) := by decide +kernel
theorem dX10_readDoor_70 : decode cX10_readDoor 70 = .ok (.aload_n 0, 1) := by decide +kernel
theorem dX10_readDoor_71 : decode cX10_readDoor 71 = .ok (.getfield 31, 3) := by decide +kernel
theorem dX10_readDoor_74 : decode cX10_readDoor 74 = .ok (.iload_n 1, 1) := by decide +kernel
theorem dX10_readDoor_75 : decode cX10_readDoor 75 = .ok (.iconst 1, 1) := by decide +kernel
theorem dX10_readDoor_76 : decode cX10_readDoor 76 = .ok (.iadd, 1) := by decide +kernel
theorem dX10_readDoor_77 : decode cX10_readDoor 77 = .ok (.aload_n 0, 1) := by decide +kernel
theorem dX10_readDoor_78 : decode cX10_readDoor 78 = .ok (.iconst 0, 1) := by decide +kernel
theorem dX10_readDoor_79 : decode cX10_readDoor 79 = .ok (.aload_n 0, 1) := by decide +kernel
theorem dX10_readDoor_80 : decode cX10_readDoor 80 = .ok (.getfield 31, 3) := by decide +kernel
theorem dX10_readDoor_83 : decode cX10_readDoor 83 = .ok (.iconst 0, 1) := by decide +kernel
theorem dX10_readDoor_84 : decode cX10_readDoor 84 = .ok (.iaload, 1) := by decide +kernel
theorem dX10_readDoor_85 : decode cX10_readDoor 85 = .ok (.iconst 1, 1) := by decide +kernel
theorem dX10_readDoor_86 : decode cX10_readDoor 86 = .ok (.isub, 1) := by decide +kernel
theorem dX10_readDoor_87 : decode cX10_readDoor 87 = .ok (.invokevirtual 161, 3) := by decide +kernel
theorem dX10_readDoor_90 : decode cX10_readDoor 90 = .ok (.iastore, 1) := by decide +kernel
theorem dX10_readDoor_91 : decode cX10_readDoor 91 = .ok (.aload_n 0, 1) := by decide +kernel
theorem dX10_readDoor_92 : decode cX10_readDoor 92 = .ok (.getfield 31, 3) := by decide +kernel
theorem dX10_readDoor_95 : decode cX10_readDoor 95 = .ok (.iload_n 1, 1) := by decide +kernel
theorem dX10_readDoor_96 : decode cX10_readDoor 96 = .ok (.iconst 2, 1) := by decide +kernel
theorem dX10_readDoor_97 : decode cX10_readDoor 97 = .ok (.iadd, 1) := by decide +kernel
theorem dX10_readDoor_98 : decode cX10_readDoor 98 = .ok (.aload_n 0, 1) := by decide +kernel
theorem dX10_readDoor_99 : decode cX10_readDoor 99 = .ok (.ldc 180, 2) := by decide +kernel
theorem dX10_readDoor_101 : decode cX10_readDoor 101 = .ok (.iconst 1, 1) := by decide +kernel
theorem dX10_readDoor_102 : decode cX10_readDoor 102 = .ok (.bipush 9, 2) := by decide +kernel
theorem dX10_readDoor_104 : decode cX10_readDoor 104 = .ok (.invokevirtual 164, 3) := by decide +kernel
theorem dX10_readDoor_107 : decode cX10_readDoor 107 = .ok (.iastore, 1) := by decide +kernel
theorem dX10_readDoor_108 : decode cX10_readDoor 108 = .ok (.aload_n 0, 1) := by decide +kernel
theorem dX10_readDoor_109 : decode cX10_readDoor 109 = .ok (.getfield 31, 3) := by decide +kernel
theorem dX10_readDoor_112 : decode cX10_readDoor 112 = .ok (.iconst 4, 1) := by decide +kernel
theorem dX10_readDoor_113 : decode cX10_readDoor 113 = .ok (.dup2, 1) := by decide +kernel
theorem dX10_readDoor_114 : decode cX10_readDoor 114 = .ok (.iaload, 1) := by decide +kernel
theorem dX10_readDoor_115 : decode cX10_readDoor 115 = .ok (.iconst 1, 1) := by decide +kernel
theorem dX10_readDoor_116 : decode cX10_readDoor 116 = .ok (.iadd, 1) := by decide +kernel
theorem dX10_readDoor_117 : decode cX10_readDoor 117 = .ok (.iastore, 1) := by decide +kernel
theorem dX10_readDoor_118 : decode cX10_readDoor 118 = .ok (.return_, 1) := by decide +kernel
theorem dX10_readBid_0 : decode cX10_readBid 0 = .ok (.bipush 74, 2) := by decide +kernel
theorem dX10_readBid_2 : decode cX10_readBid 2 = .ok (.iconst 3, 1) := by decide +kernel
theorem dX10_readBid_3 : decode cX10_readBid 3 = .ok (.aload_n 0, 1) := by decide +kernel
theorem dX10_readBid_4 : decode cX10_readBid 4 = .ok (.getfield 31, 3) := by decide +kernel
theorem dX10_readBid_7 : decode cX10_readBid 7 = .ok (.bipush 7, 2) := by decide +kernel
theorem dX10_readBid_9 : decode cX10_readBid 9 = .ok (.iaload, 1) := by decide +kernel
theorem dX10_readBid_10 : decode cX10_readBid 10 = .ok (.imul, 1) := by decide +kernel
theorem dX10_readBid_11 : decode cX10_readBid 11 = .ok (.iadd, 1) := by decide +kernel
theorem dX10_readBid_12 : decode cX10_readBid 12 = .ok (.istore_n 1, 1) := by decide +kernel
theorem dX10_readBid_13 : decode cX10_readBid 13 = .ok (.aload_n 0, 1) := by decide +kernel
theorem dX10_readBid_14 : decode cX10_readBid 14 = .ok (.getfield 31, 3) := by decide +kernel
theorem dX10_readBid_17 : decode cX10_readBid 17 = .ok (.iload_n 1, 1) := by decide +kernel
theorem dX10_readBid_18 : decode cX10_readBid 18 = .ok (.aload_n 0, 1) := by decide +kernel
theorem dX10_readBid_19 : decode cX10_readBid 19 = .ok (.iconst 0, 1) := by decide +kernel
theorem dX10_readBid_20 : decode cX10_readBid 20 = .ok (.aload_n 0, 1) := by decide +kernel
theorem dX10_readBid_21 : decode cX10_readBid 21 = .ok (.getfield 31, 3) := by decide +kernel
theorem dX10_readBid_24 : decode cX10_readBid 24 = .ok (.iconst 5, 1) := by decide +kernel
theorem dX10_readBid_25 : decode cX10_readBid 25 = .ok (.iaload, 1) := by decide +kernel
theorem dX10_readBid_26 : decode cX10_readBid 26 = .ok (.iconst 1, 1) := by decide +kernel
theorem dX10_readBid_27 : decode cX10_readBid 27 = .ok (.isub, 1) := by decide +kernel
theorem dX10_readBid_28 : decode cX10_readBid 28 = .ok (.invokevirtual 161, 3) := by decide +kernel
theorem dX10_readBid_31 : decode cX10_readBid 31 = .ok (.iastore, 1) := by decide +kernel
theorem dX10_readBid_32 : decode cX10_readBid 32 = .ok (.aload_n 0, 1) := by decide +kernel
theorem dX10_readBid_33 : decode cX10_readBid 33 = .ok (.getfield 31, 3) := by decide +kernel
theorem dX10_readBid_36 : decode cX10_readBid 36 = .ok (.iload_n 1, 1) := by decide +kernel
theorem dX10_readBid_37 : decode cX10_readBid 37 = .ok (.iconst 1, 1) := by decide +kernel
theorem dX10_readBid_38 : decode cX10_readBid 38 = .ok (.iadd, 1) := by decide +kernel
theorem dX10_readBid_39 : decode cX10_readBid 39 = .ok (.aload_n 0, 1) := by decide +kernel
theorem dX10_readBid_40 : decode cX10_readBid 40 = .ok (.ldc 178, 2) := by decide +kernel
theorem dX10_readBid_42 : decode cX10_readBid 42 = .ok (.invokevirtual 182, 3) := by decide +kernel
theorem dX10_readBid_45 : decode cX10_readBid 45 = .ok (.iastore, 1) := by decide +kernel
theorem dX10_readBid_46 : decode cX10_readBid 46 = .ok (.aload_n 0, 1) := by decide +kernel
theorem dX10_readBid_47 : decode cX10_readBid 47 = .ok (.getfield 31, 3) := by decide +kernel
theorem dX10_readBid_50 : decode cX10_readBid 50 = .ok (.iload_n 1, 1) := by decide +kernel
theorem dX10_readBid_51 : decode cX10_readBid 51 = .ok (.iconst 2, 1) := by decide +kernel
theorem dX10_readBid_52 : decode cX10_readBid 52 = .ok (.iadd, 1) := by decide +kernel
theorem dX10_readBid_53 : decode cX10_readBid 53 = .ok (.aload_n 0, 1) := by decide +kernel
theorem dX10_readBid_54 : decode cX10_readBid 54 = .ok (.ldc 186, 2) := by decide +kernel
theorem dX10_readBid_56 : decode cX10_readBid 56 = .ok (.iconst 0, 1) := by decide +kernel
theorem dX10_readBid_57 : decode cX10_readBid 57 = .ok (.bipush 13, 2) := by decide +kernel
theorem dX10_readBid_59 : decode cX10_readBid 59 = .ok (.invokevirtual 164, 3) := by decide +kernel
theorem dX10_readBid_62 : decode cX10_readBid 62 = .ok (.iastore, 1) := by decide +kernel
theorem dX10_readBid_63 : decode cX10_readBid 63 = .ok (.aload_n 0, 1) := by decide +kernel
theorem dX10_readBid_64 : decode cX10_readBid 64 = .ok (.getfield 31, 3) := by decide +kernel
theorem dX10_readBid_67 : decode cX10_readBid 67 = .ok (.bipush 7, 2) := by decide +kernel
theorem dX10_readBid_69 : decode cX10_readBid 69 = .ok (.dup2, 1) := by decide +kernel
theorem dX10_readBid_70 : decode cX10_readBid 70 = .ok (.iaload, 1) := by decide +kernel
theorem dX10_readBid_71 : decode cX10_readBid 71 = .ok (.iconst 1, 1) := by decide +kernel
theorem dX10_readBid_72 : decode cX10_readBid 72 = .ok (.iadd, 1) := by decide +kernel
theorem dX10_readBid_73 : decode cX10_readBid 73 = .ok (.iastore, 1) := by decide +kernel
theorem dX10_readBid_74 : decode cX10_readBid 74 = .ok (.return_, 1) := by decide +kernel
theorem dX10_isFull_0 : decode cX10_isFull 0 = .ok (.aload_n 0, 1) := by decide +kernel
theorem dX10_isFull_1 : decode cX10_isFull 1 = .ok (.ldc 187, 2) := by decide +kernel
theorem dX10_isFull_3 : decode cX10_isFull 3 = .ok (.invokevirtual 143, 3) := by decide +kernel
theorem dX10_isFull_6 : decode cX10_isFull 6 = .ok (.ifCond .eq 14, 3) := by decide +kernel
theorem dX10_isFull_9 : decode cX10_isFull 9 = .ok (.aload_n 0, 1) := by decide +kernel
theorem dX10_isFull_10 : decode cX10_isFull 10 = .ok (.getfield 31, 3) := by decide +kernel
theorem dX10_isFull_13 : decode cX10_isFull 13 = .ok (.iconst 4, 1) := by decide +kernel
theorem dX10_isFull_14 : decode cX10_isFull 14 = .ok (.iaload, 1) := by decide +kernel
theorem dX10_isFull_15 : decode cX10_isFull 15 = .ok (.bipush 12, 2) := by decide +kernel
theorem dX10_isFull_17 : decode cX10_isFull 17 = .ok (.if_icmp .eq 23, 3) := by decide +kernel
theorem dX10_isFull_20 : decode cX10_isFull 20 = .ok (.aload_n 0, 1) := by decide +kernel
theorem dX10_isFull_21 : decode cX10_isFull 21 = .ok (.ldc 189, 2) := by decide +kernel
theorem dX10_isFull_23 : decode cX10_isFull 23 = .ok (.invokevirtual 143, 3) := by decide +kernel
theorem dX10_isFull_26 : decode cX10_isFull 26 = .ok (.ifCond .eq 16, 3) := by decide +kernel
theorem dX10_isFull_29 : decode cX10_isFull 29 = .ok (.aload_n 0, 1) := by decide +kernel
theorem dX10_isFull_30 : decode cX10_isFull 30 = .ok (.getfield 31, 3) := by decide +kernel
theorem dX10_isFull_33 : decode cX10_isFull 33 = .ok (.iconst 5, 1) := by decide +kernel
theorem dX10_isFull_34 : decode cX10_isFull 34 = .ok (.iaload, 1) := by decide +kernel
theorem dX10_isFull_35 : decode cX10_isFull 35 = .ok (.bipush 6, 2) := by decide +kernel
theorem dX10_isFull_37 : decode cX10_isFull 37 = .ok (.if_icmp .ne 5, 3) := by decide +kernel
theorem dX10_isFull_40 : decode cX10_isFull 40 = .ok (.iconst 1, 1) := by decide +kernel
theorem dX10_isFull_41 : decode cX10_isFull 41 = .ok (.ireturn, 1) := by decide +kernel
theorem dX10_isFull_42 : decode cX10_isFull 42 = .ok (.aload_n 0, 1) := by decide +kernel
theorem dX10_isFull_43 : decode cX10_isFull 43 = .ok (.ldc 191, 2) := by decide +kernel
theorem dX10_isFull_45 : decode cX10_isFull 45 = .ok (.invokevirtual 143, 3) := by decide +kernel
theorem dX10_isFull_48 : decode cX10_isFull 48 = .ok (.ifCond .eq 15, 3) := by decide +kernel
theorem dX10_isFull_51 : decode cX10_isFull 51 = .ok (.aload_n 0, 1) := by decide +kernel
theorem dX10_isFull_52 : decode cX10_isFull 52 = .ok (.getfield 31, 3) := by decide +kernel
theorem dX10_isFull_55 : decode cX10_isFull 55 = .ok (.bipush 6, 2) := by decide +kernel
theorem dX10_isFull_57 : decode cX10_isFull 57 = .ok (.iaload, 1) := by decide +kernel
theorem dX10_isFull_58 : decode cX10_isFull 58 = .ok (.bipush 8, 2) := by decide +kernel
theorem dX10_isFull_60 : decode cX10_isFull 60 = .ok (.if_icmp .eq 24, 3) := by decide +kernel
theorem dX10_isFull_63 : decode cX10_isFull 63 = .ok (.aload_n 0, 1) := by decide +kernel
theorem dX10_isFull_64 : decode cX10_isFull 64 = .ok (.ldc 193, 2) := by decide +kernel
theorem dX10_isFull_66 : decode cX10_isFull 66 = .ok (.invokevirtual 143, 3) := by decide +kernel
theorem dX10_isFull_69 : decode cX10_isFull 69 = .ok (.ifCond .eq 19, 3) := by decide +kernel
theorem dX10_isFull_72 : decode cX10_isFull 72 = .ok (.aload_n 0, 1) := by decide +kernel
theorem dX10_isFull_73 : decode cX10_isFull 73 = .ok (.getfield 31, 3) := by decide +kernel
theorem dX10_isFull_76 : decode cX10_isFull 76 = .ok (.bipush 7, 2) := by decide +kernel
theorem dX10_isFull_78 : decode cX10_isFull 78 = .ok (.iaload, 1) := by decide +kernel
theorem dX10_isFull_79 : decode cX10_isFull 79 = .ok (.bipush 10, 2) := by decide +kernel
theorem dX10_isFull_81 : decode cX10_isFull 81 = .ok (.if_icmp .ne 7, 3) := by decide +kernel
theorem dX10_isFull_84 : decode cX10_isFull 84 = .ok (.iconst 1, 1) := by decide +kernel
theorem dX10_isFull_85 : decode cX10_isFull 85 = .ok (.goto 4, 3) := by decide +kernel
theorem dX10_isFull_88 : decode cX10_isFull 88 = .ok (.iconst 0, 1) := by decide +kernel
theorem dX10_isFull_89 : decode cX10_isFull 89 = .ok (.ireturn, 1) := by decide +kernel
theorem dX10_readNext_0 : decode cX10_readNext 0 = .ok (.aload_n 0, 1) := by decide +kernel
theorem dX10_readNext_1 : decode cX10_readNext 1 = .ok (.ldc 187, 2) := by decide +kernel
theorem dX10_readNext_3 : decode cX10_readNext 3 = .ok (.invokevirtual 143, 3) := by decide +kernel
theorem dX10_readNext_6 : decode cX10_readNext 6 = .ok (.ifCond .ne 30, 3) := by decide +kernel
theorem dX10_readNext_9 : decode cX10_readNext 9 = .ok (.aload_n 0, 1) := by decide +kernel
theorem dX10_readNext_10 : decode cX10_readNext 10 = .ok (.ldc 189, 2) := by decide +kernel
theorem dX10_readNext_12 : decode cX10_readNext 12 = .ok (.invokevirtual 143, 3) := by decide +kernel
theorem dX10_readNext_15 : decode cX10_readNext 15 = .ok (.ifCond .ne 21, 3) := by decide +kernel
theorem dX10_readNext_18 : decode cX10_readNext 18 = .ok (.aload_n 0, 1) := by decide +kernel
theorem dX10_readNext_19 : decode cX10_readNext 19 = .ok (.ldc 191, 2) := by decide +kernel
theorem dX10_readNext_21 : decode cX10_readNext 21 = .ok (.invokevirtual 143, 3) := by decide +kernel
theorem dX10_readNext_24 : decode cX10_readNext 24 = .ok (.ifCond .ne 12, 3) := by decide +kernel
theorem dX10_readNext_27 : decode cX10_readNext 27 = .ok (.aload_n 0, 1) := by decide +kernel
theorem dX10_readNext_28 : decode cX10_readNext 28 = .ok (.ldc 193, 2) := by decide +kernel
theorem dX10_readNext_30 : decode cX10_readNext 30 = .ok (.invokevirtual 143, 3) := by decide +kernel
theorem dX10_readNext_33 : decode cX10_readNext 33 = .ok (.ifCond .eq 7, 3) := by decide +kernel
theorem dX10_readNext_36 : decode cX10_readNext 36 = .ok (.iconst 1, 1) := by decide +kernel
theorem dX10_readNext_37 : decode cX10_readNext 37 = .ok (.goto 4, 3) := by decide +kernel
theorem dX10_readNext_40 : decode cX10_readNext 40 = .ok (.iconst 0, 1) := by decide +kernel
theorem dX10_readNext_41 : decode cX10_readNext 41 = .ok (.istore_n 1, 1) := by decide +kernel
theorem dX10_readNext_42 : decode cX10_readNext 42 = .ok (.iload_n 1, 1) := by decide +kernel
theorem dX10_readNext_43 : decode cX10_readNext 43 = .ok (.ifCond .ne 8, 3) := by decide +kernel
theorem dX10_readNext_46 : decode cX10_readNext 46 = .ok (.aload_n 0, 1) := by decide +kernel
theorem dX10_readNext_47 : decode cX10_readNext 47 = .ok (.iconst 1, 1) := by decide +kernel
theorem dX10_readNext_48 : decode cX10_readNext 48 = .ok (.invokevirtual 153, 3) := by decide +kernel
theorem dX10_readNext_51 : decode cX10_readNext 51 = .ok (.aload_n 0, 1) := by decide +kernel
theorem dX10_readNext_52 : decode cX10_readNext 52 = .ok (.invokevirtual 195, 3) := by decide +kernel
theorem dX10_readNext_55 : decode cX10_readNext 55 = .ok (.ifCond .eq 8, 3) := by decide +kernel
theorem dX10_readNext_58 : decode cX10_readNext 58 = .ok (.aload_n 0, 1) := by decide +kernel
theorem dX10_readNext_59 : decode cX10_readNext 59 = .ok (.iconst 3, 1) := by decide +kernel
theorem dX10_readNext_60 : decode cX10_readNext 60 = .ok (.invokevirtual 153, 3) := by decide +kernel
theorem dX10_readNext_63 : decode cX10_readNext 63 = .ok (.aload_n 0, 1) := by decide +kernel
theorem dX10_readNext_64 : decode cX10_readNext 64 = .ok (.invokevirtual 130, 3) := by decide +kernel
theorem dX10_readNext_67 : decode cX10_readNext 67 = .ok (.ifCond .ne 4, 3) := by decide +kernel
theorem dX10_readNext_70 : decode cX10_readNext 70 = .ok (.return_, 1) := by decide +kernel
theorem dX10_readNext_71 : decode cX10_readNext 71 = .ok (.aload_n 0, 1) := by decide +kernel
theorem dX10_readNext_72 : decode cX10_readNext 72 = .ok (.ldc 187, 2) := by decide +kernel
theorem dX10_readNext_74 : decode cX10_readNext 74 = .ok (.invokevirtual 150, 3) := by decide +kernel
theorem dX10_readNext_77 : decode cX10_readNext 77 = .ok (.ifCond .eq 10, 3) := by decide +kernel
theorem dX10_readNext_80 : decode cX10_readNext 80 = .ok (.aload_n 0, 1) := by decide +kernel
theorem dX10_readNext_81 : decode cX10_readNext 81 = .ok (.invokevirtual 198, 3) := by decide +kernel
theorem dX10_readNext_84 : decode cX10_readNext 84 = .ok (.goto 148, 3) := by decide +kernel
theorem dX10_readNext_87 : decode cX10_readNext 87 = .ok (.aload_n 0, 1) := by decide +kernel
theorem dX10_readNext_88 : decode cX10_readNext 88 = .ok (.ldc 189, 2) := by decide +kernel
theorem dX10_readNext_90 : decode cX10_readNext 90 = .ok (.invokevirtual 150, 3) := by decide +kernel
theorem dX10_readNext_93 : decode cX10_readNext 93 = .ok (.ifCond .eq 57, 3) := by decide +kernel
theorem dX10_readNext_96 : decode cX10_readNext 96 = .ok (.bipush 46, 2) := by decide +kernel
theorem dX10_readNext_98 : decode cX10_readNext 98 = .ok (.iconst 2, 1) := by decide +kernel
theorem dX10_readNext_99 : decode cX10_readNext 99 = .ok (.aload_n 0, 1) := by decide +kernel
theorem dX10_readNext_100 : decode cX10_readNext 100 = .ok (.getfield 31, 3) := by decide +kernel
theorem dX10_readNext_103 : decode cX10_readNext 103 = .ok (.iconst 5, 1) := by decide +kernel
theorem dX10_readNext_104 : decode cX10_readNext 104 = .ok (.iaload, 1) := by decide +kernel
theorem dX10_readNext_105 : decode cX10_readNext 105 = .ok (.imul, 1) := by decide +kernel
theorem dX10_readNext_106 : decode cX10_readNext 106 = .ok (.iadd, 1) := by decide +kernel
theorem dX10_readNext_107 : decode cX10_readNext 107 = .ok (.istore_n 2, 1) := by decide +kernel
theorem dX10_readNext_108 : decode cX10_readNext 108 = .ok (.aload_n 0, 1) := by decide +kernel
theorem dX10_readNext_109 : decode cX10_readNext 109 = .ok (.getfield 31, 3) := by decide +kernel
theorem dX10_readNext_112 : decode cX10_readNext 112 = .ok (.iload_n 2, 1) := by decide +kernel
theorem dX10_readNext_113 : decode cX10_readNext 113 = .ok (.aload_n 0, 1) := by decide +kernel
theorem dX10_readNext_114 : decode cX10_readNext 114 = .ok (.ldc 201, 2) := by decide +kernel
theorem dX10_readNext_116 : decode cX10_readNext 116 = .ok (.invokevirtual 182, 3) := by decide +kernel
theorem dX10_readNext_119 : decode cX10_readNext 119 = .ok (.iastore, 1) := by decide +kernel
theorem dX10_readNext_120 : decode cX10_readNext 120 = .ok (.aload_n 0, 1) := by decide +kernel
theorem dX10_readNext_121 : decode cX10_readNext 121 = .ok (.getfield 31, 3) := by decide +kernel
theorem dX10_readNext_124 : decode cX10_readNext 124 = .ok (.iload_n 2, 1) := by decide +kernel
theorem dX10_readNext_125 : decode cX10_readNext 125 = .ok (.iconst 1, 1) := by decide +kernel
theorem dX10_readNext_126 : decode cX10_readNext 126 = .ok (.iadd, 1) := by decide +kernel
theorem dX10_readNext_127 : decode cX10_readNext 127 = .ok (.aload_n 0, 1) := by decide +kernel
theorem dX10_readNext_128 : decode cX10_readNext 128 = .ok (.ldc 180, 2) := by decide +kernel
theorem dX10_readNext_130 : decode cX10_readNext 130 = .ok (.iconst 1, 1) := by decide +kernel
theorem dX10_readNext_131 : decode cX10_readNext 131 = .ok (.bipush 9, 2) := by decide +kernel
theorem dX10_readNext_133 : decode cX10_readNext 133 = .ok (.invokevirtual 164, 3) := by decide +kernel
theorem dX10_readNext_136 : decode cX10_readNext 136 = .ok (.iastore, 1) := by decide +kernel
theorem dX10_readNext_137 : decode cX10_readNext 137 = .ok (.aload_n 0, 1) := by decide +kernel
theorem dX10_readNext_138 : decode cX10_readNext 138 = .ok (.getfield 31, 3) := by decide +kernel
theorem dX10_readNext_141 : decode cX10_readNext 141 = .ok (.iconst 5, 1) := by decide +kernel
theorem dX10_readNext_142 : decode cX10_readNext 142 = .ok (.dup2, 1) := by decide +kernel
theorem dX10_readNext_143 : decode cX10_readNext 143 = .ok (.iaload, 1) := by decide +kernel
theorem dX10_readNext_144 : decode cX10_readNext 144 = .ok (.iconst 1, 1) := by decide +kernel
theorem dX10_readNext_145 : decode cX10_readNext 145 = .ok (.iadd, 1) := by decide +kernel
theorem dX10_readNext_146 : decode cX10_readNext 146 = .ok (.iastore, 1) := by decide +kernel
theorem dX10_readNext_147 : decode cX10_readNext 147 = .ok (.goto 85, 3) := by decide +kernel
theorem dX10_readNext_150 : decode cX10_readNext 150 = .ok (.aload_n 0, 1) := by decide +kernel
theorem dX10_readNext_151 : decode cX10_readNext 151 = .ok (.ldc 191, 2) := by decide +kernel
theorem dX10_readNext_153 : decode cX10_readNext 153 = .ok (.invokevirtual 150, 3) := by decide +kernel
theorem dX10_readNext_156 : decode cX10_readNext 156 = .ok (.ifCond .eq 68, 3) := by decide +kernel
theorem dX10_readNext_159 : decode cX10_readNext 159 = .ok (.bipush 58, 2) := by decide +kernel
theorem dX10_readNext_161 : decode cX10_readNext 161 = .ok (.iconst 2, 1) := by decide +kernel
theorem dX10_readNext_162 : decode cX10_readNext 162 = .ok (.aload_n 0, 1) := by decide +kernel
theorem dX10_readNext_163 : decode cX10_readNext 163 = .ok (.getfield 31, 3) := by decide +kernel
theorem dX10_readNext_166 : decode cX10_readNext 166 = .ok (.bipush 6, 2) := by decide +kernel
theorem dX10_readNext_168 : decode cX10_readNext 168 = .ok (.iaload, 1) := by decide +kernel
theorem dX10_readNext_169 : decode cX10_readNext 169 = .ok (.imul, 1) := by decide +kernel
theorem dX10_readNext_170 : decode cX10_readNext 170 = .ok (.iadd, 1) := by decide +kernel
theorem dX10_readNext_171 : decode cX10_readNext 171 = .ok (.istore_n 2, 1) := by decide +kernel
theorem dX10_readNext_172 : decode cX10_readNext 172 = .ok (.aload_n 0, 1) := by decide +kernel
theorem dX10_readNext_173 : decode cX10_readNext 173 = .ok (.getfield 31, 3) := by decide +kernel
theorem dX10_readNext_176 : decode cX10_readNext 176 = .ok (.iload_n 2, 1) := by decide +kernel
theorem dX10_readNext_177 : decode cX10_readNext 177 = .ok (.aload_n 0, 1) := by decide +kernel
theorem dX10_readNext_178 : decode cX10_readNext 178 = .ok (.ldc 202, 2) := by decide +kernel
theorem dX10_readNext_180 : decode cX10_readNext 180 = .ok (.iconst 0, 1) := by decide +kernel
theorem dX10_readNext_181 : decode cX10_readNext 181 = .ok (.aload_n 0, 1) := by decide +kernel
theorem dX10_readNext_182 : decode cX10_readNext 182 = .ok (.getfield 31, 3) := by decide +kernel
theorem dX10_readNext_185 : decode cX10_readNext 185 = .ok (.iconst 5, 1) := by decide +kernel
theorem dX10_readNext_186 : decode cX10_readNext 186 = .ok (.iaload, 1) := by decide +kernel
theorem dX10_readNext_187 : decode cX10_readNext 187 = .ok (.iconst 1, 1) := by decide +kernel
theorem dX10_readNext_188 : decode cX10_readNext 188 = .ok (.isub, 1) := by decide +kernel
theorem dX10_readNext_189 : decode cX10_readNext 189 = .ok (.invokevirtual 164, 3) := by decide +kernel
theorem dX10_readNext_192 : decode cX10_readNext 192 = .ok (.iastore, 1) := by decide +kernel
theorem dX10_readNext_193 : decode cX10_readNext 193 = .ok (.aload_n 0, 1) := by decide +kernel
theorem dX10_readNext_194 : decode cX10_readNext 194 = .ok (.getfield 31, 3) := by decide +kernel
theorem dX10_readNext_197 : decode cX10_readNext 197 = .ok (.iload_n 2, 1) := by decide +kernel
theorem dX10_readNext_198 : decode cX10_readNext 198 = .ok (.iconst 1, 1) := by decide +kernel
theorem dX10_readNext_199 : decode cX10_readNext 199 = .ok (.iadd, 1) := by decide +kernel
theorem dX10_readNext_200 : decode cX10_readNext 200 = .ok (.aload_n 0, 1) := by decide +kernel
theorem dX10_readNext_201 : decode cX10_readNext 201 = .ok (.ldc 204, 2) := by decide +kernel
theorem dX10_readNext_203 : decode cX10_readNext 203 = .ok (.iconst 1, 1) := by decide +kernel
theorem dX10_readNext_204 : decode cX10_readNext 204 = .ok (.bipush 20, 2) := by decide +kernel
theorem dX10_readNext_206 : decode cX10_readNext 206 = .ok (.invokevirtual 164, 3) := by decide +kernel
theorem dX10_readNext_209 : decode cX10_readNext 209 = .ok (.iastore, 1) := by decide +kernel
theorem dX10_readNext_210 : decode cX10_readNext 210 = .ok (.aload_n 0, 1) := by decide +kernel
theorem dX10_readNext_211 : decode cX10_readNext 211 = .ok (.getfield 31, 3) := by decide +kernel
theorem dX10_readNext_214 : decode cX10_readNext 214 = .ok (.bipush 6, 2) := by decide +kernel
theorem dX10_readNext_216 : decode cX10_readNext 216 = .ok (.dup2, 1) := by decide +kernel
theorem dX10_readNext_217 : decode cX10_readNext 217 = .ok (.iaload, 1) := by decide +kernel
theorem dX10_readNext_218 : decode cX10_readNext 218 = .ok (.iconst 1, 1) := by decide +kernel
theorem dX10_readNext_219 : decode cX10_readNext 219 = .ok (.iadd, 1) := by decide +kernel
theorem dX10_readNext_220 : decode cX10_readNext 220 = .ok (.iastore, 1) := by decide +kernel
theorem dX10_readNext_221 : decode cX10_readNext 221 = .ok (.goto 11, 3) := by decide +kernel
theorem dX10_readNext_224 : decode cX10_readNext 224 = .ok (.aload_n 0, 1) := by decide +kernel
theorem dX10_readNext_225 : decode cX10_readNext 225 = .ok (.invokevirtual 147, 3) := by decide +kernel
theorem dX10_readNext_228 : decode cX10_readNext 228 = .ok (.aload_n 0, 1) := by decide +kernel
theorem dX10_readNext_229 : decode cX10_readNext 229 = .ok (.invokevirtual 206, 3) := by decide +kernel
theorem dX10_readNext_232 : decode cX10_readNext 232 = .ok (.return_, 1) := by decide +kernel
theorem dX10_readLine_0 : decode cX10_readLine 0 = .ok (.aload_n 0, 1) := by decide +kernel
theorem dX10_readLine_1 : decode cX10_readLine 1 = .ok (.getfield 31, 3) := by decide +kernel
theorem dX10_readLine_4 : decode cX10_readLine 4 = .ok (.bipush 9, 2) := by decide +kernel
theorem dX10_readLine_6 : decode cX10_readLine 6 = .ok (.iaload, 1) := by decide +kernel
theorem dX10_readLine_7 : decode cX10_readLine 7 = .ok (.ifCond .ne 10, 3) := by decide +kernel
theorem dX10_readLine_10 : decode cX10_readLine 10 = .ok (.aload_n 0, 1) := by decide +kernel
theorem dX10_readLine_11 : decode cX10_readLine 11 = .ok (.invokevirtual 209, 3) := by decide +kernel
theorem dX10_readLine_14 : decode cX10_readLine 14 = .ok (.goto 7, 3) := by decide +kernel
theorem dX10_readLine_17 : decode cX10_readLine 17 = .ok (.aload_n 0, 1) := by decide +kernel
theorem dX10_readLine_18 : decode cX10_readLine 18 = .ok (.invokevirtual 212, 3) := by decide +kernel
theorem dX10_readLine_21 : decode cX10_readLine 21 = .ok (.aload_n 0, 1) := by decide +kernel
theorem dX10_readLine_22 : decode cX10_readLine 22 = .ok (.invokevirtual 130, 3) := by decide +kernel
theorem dX10_readLine_25 : decode cX10_readLine 25 = .ok (.ifCond .eq 16, 3) := by decide +kernel
theorem dX10_readLine_28 : decode cX10_readLine 28 = .ok (.aload_n 0, 1) := by decide +kernel
theorem dX10_readLine_29 : decode cX10_readLine 29 = .ok (.getfield 106, 3) := by decide +kernel
theorem dX10_readLine_32 : decode cX10_readLine 32 = .ok (.iconst 3, 1) := by decide +kernel
theorem dX10_readLine_33 : decode cX10_readLine 33 = .ok (.if_icmp .eq 8, 3) := by decide +kernel
theorem dX10_readLine_36 : decode cX10_readLine 36 = .ok (.aload_n 0, 1) := by decide +kernel
theorem dX10_readLine_37 : decode cX10_readLine 37 = .ok (.iconst 1, 1) := by decide +kernel
theorem dX10_readLine_38 : decode cX10_readLine 38 = .ok (.invokevirtual 153, 3) := by decide +kernel
theorem dX10_readLine_41 : decode cX10_readLine 41 = .ok (.aload_n 0, 1) := by decide +kernel
theorem dX10_readLine_42 : decode cX10_readLine 42 = .ok (.invokevirtual 130, 3) := by decide +kernel
theorem dX10_readLine_45 : decode cX10_readLine 45 = .ok (.ifCond .eq 7, 3) := by decide +kernel
theorem dX10_readLine_48 : decode cX10_readLine 48 = .ok (.aload_n 0, 1) := by decide +kernel
theorem dX10_readLine_49 : decode cX10_readLine 49 = .ok (.invokevirtual 147, 3) := by decide +kernel
theorem dX10_readLine_52 : decode cX10_readLine 52 = .ok (.aload_n 0, 1) := by decide +kernel
theorem dX10_readLine_53 : decode cX10_readLine 53 = .ok (.getfield 31, 3) := by decide +kernel
theorem dX10_readLine_56 : decode cX10_readLine 56 = .ok (.bipush 9, 2) := by decide +kernel
theorem dX10_readLine_58 : decode cX10_readLine 58 = .ok (.dup2, 1) := by decide +kernel
theorem dX10_readLine_59 : decode cX10_readLine 59 = .ok (.iaload, 1) := by decide +kernel
theorem dX10_readLine_60 : decode cX10_readLine 60 = .ok (.iconst 1, 1) := by decide +kernel
theorem dX10_readLine_61 : decode cX10_readLine 61 = .ok (.iadd, 1) := by decide +kernel
theorem dX10_readLine_62 : decode cX10_readLine 62 = .ok (.iastore, 1) := by decide +kernel
theorem dX10_readLine_63 : decode cX10_readLine 63 = .ok (.return_, 1) := by decide +kernel
theorem dX10_ball_0 : decode cX10_ball 0 = .ok (.aload_n 0, 1) := by decide +kernel
theorem dX10_ball_1 : decode cX10_ball 1 = .ok (.aload_n 0, 1) := by decide +kernel
theorem dX10_ball_2 : decode cX10_ball 2 = .ok (.getfield 90, 3) := by decide +kernel
theorem dX10_ball_5 : decode cX10_ball 5 = .ok (.putfield 93, 3) := by decide +kernel
theorem dX10_ball_8 : decode cX10_ball 8 = .ok (.aload_n 0, 1) := by decide +kernel
theorem dX10_ball_9 : decode cX10_ball 9 = .ok (.iconst 0, 1) := by decide +kernel
theorem dX10_ball_10 : decode cX10_ball 10 = .ok (.putfield 90, 3) := by decide +kernel
theorem dX10_ball_13 : decode cX10_ball 13 = .ok (.aload_n 0, 1) := by decide +kernel
theorem dX10_ball_14 : decode cX10_ball 14 = .ok (.iconst 0, 1) := by decide +kernel
theorem dX10_ball_15 : decode cX10_ball 15 = .ok (.putfield 96, 3) := by decide +kernel
theorem dX10_ball_18 : decode cX10_ball 18 = .ok (.aload_n 0, 1) := by decide +kernel
theorem dX10_ball_19 : decode cX10_ball 19 = .ok (.iconst 0, 1) := by decide +kernel
theorem dX10_ball_20 : decode cX10_ball 20 = .ok (.putfield 127, 3) := by decide +kernel
theorem dX10_ball_23 : decode cX10_ball 23 = .ok (.aload_n 0, 1) := by decide +kernel
theorem dX10_ball_24 : decode cX10_ball 24 = .ok (.iconst (-1), 1) := by decide +kernel
theorem dX10_ball_25 : decode cX10_ball 25 = .ok (.putfield 27, 3) := by decide +kernel
theorem dX10_ball_28 : decode cX10_ball 28 = .ok (.iconst 0, 1) := by decide +kernel
theorem dX10_ball_29 : decode cX10_ball 29 = .ok (.istore_n 1, 1) := by decide +kernel
theorem dX10_ball_30 : decode cX10_ball 30 = .ok (.iload_n 1, 1) := by decide +kernel
theorem dX10_ball_31 : decode cX10_ball 31 = .ok (.sipush 134, 3) := by decide +kernel
theorem dX10_ball_34 : decode cX10_ball 34 = .ok (.if_icmp .ge 16, 3) := by decide +kernel
theorem dX10_ball_37 : decode cX10_ball 37 = .ok (.aload_n 0, 1) := by decide +kernel
theorem dX10_ball_38 : decode cX10_ball 38 = .ok (.getfield 31, 3) := by decide +kernel
theorem dX10_ball_41 : decode cX10_ball 41 = .ok (.iload_n 1, 1) := by decide +kernel
theorem dX10_ball_42 : decode cX10_ball 42 = .ok (.iconst 0, 1) := by decide +kernel
theorem dX10_ball_43 : decode cX10_ball 43 = .ok (.iastore, 1) := by decide +kernel
theorem dX10_ball_44 : decode cX10_ball 44 = .ok (.iinc 1 1, 3) := by decide +kernel
theorem dX10_ball_47 : decode cX10_ball 47 = .ok (.goto (-17), 3) := by decide +kernel
theorem dX10_ball_50 : decode cX10_ball 50 = .ok (.aload_n 0, 1) := by decide +kernel
theorem dX10_ball_51 : decode cX10_ball 51 = .ok (.invokevirtual 147, 3) := by decide +kernel
theorem dX10_ball_54 : decode cX10_ball 54 = .ok (.aload_n 0, 1) := by decide +kernel
theorem dX10_ball_55 : decode cX10_ball 55 = .ok (.invokevirtual 130, 3) := by decide +kernel
theorem dX10_ball_58 : decode cX10_ball 58 = .ok (.ifCond .eq 17, 3) := by decide +kernel
theorem dX10_ball_61 : decode cX10_ball 61 = .ok (.aload_n 0, 1) := by decide +kernel
theorem dX10_ball_62 : decode cX10_ball 62 = .ok (.getfield 106, 3) := by decide +kernel
theorem dX10_ball_65 : decode cX10_ball 65 = .ok (.ifCond .eq 10, 3) := by decide +kernel
theorem dX10_ball_68 : decode cX10_ball 68 = .ok (.aload_n 0, 1) := by decide +kernel
theorem dX10_ball_69 : decode cX10_ball 69 = .ok (.invokevirtual 215, 3) := by decide +kernel
theorem dX10_ball_72 : decode cX10_ball 72 = .ok (.goto (-18), 3) := by decide +kernel
theorem dX10_ball_75 : decode cX10_ball 75 = .ok (.aload_n 0, 1) := by decide +kernel
theorem dX10_ball_76 : decode cX10_ball 76 = .ok (.invokevirtual 130, 3) := by decide +kernel
theorem dX10_ball_79 : decode cX10_ball 79 = .ok (.ifCond .ne 6, 3) := by decide +kernel
theorem dX10_ball_82 : decode cX10_ball 82 = .ok (.bipush (-4), 2) := by decide +kernel
theorem dX10_ball_84 : decode cX10_ball 84 = .ok (.ireturn, 1) := by decide +kernel
theorem dX10_ball_85 : decode cX10_ball 85 = .ok (.iconst 0, 1) := by decide +kernel
theorem dX10_ball_86 : decode cX10_ball 86 = .ok (.istore_n 1, 1) := by decide +kernel
theorem dX10_ball_87 : decode cX10_ball 87 = .ok (.iload_n 1, 1) := by decide +kernel
theorem dX10_ball_88 : decode cX10_ball 88 = .ok (.sipush 134, 3) := by decide +kernel
theorem dX10_ball_91 : decode cX10_ball 91 = .ok (.if_icmp .ge 21, 3) := by decide +kernel
theorem dX10_ball_94 : decode cX10_ball 94 = .ok (.aload_n 0, 1) := by decide +kernel
theorem dX10_ball_95 : decode cX10_ball 95 = .ok (.getfield 9, 3) := by decide +kernel
theorem dX10_ball_98 : decode cX10_ball 98 = .ok (.iload_n 1, 1) := by decide +kernel
theorem dX10_ball_99 : decode cX10_ball 99 = .ok (.aload_n 0, 1) := by decide +kernel
theorem dX10_ball_100 : decode cX10_ball 100 = .ok (.getfield 31, 3) := by decide +kernel
theorem dX10_ball_103 : decode cX10_ball 103 = .ok (.iload_n 1, 1) := by decide +kernel
theorem dX10_ball_104 : decode cX10_ball 104 = .ok (.iaload, 1) := by decide +kernel
theorem dX10_ball_105 : decode cX10_ball 105 = .ok (.iastore, 1) := by decide +kernel
theorem dX10_ball_106 : decode cX10_ball 106 = .ok (.iinc 1 1, 3) := by decide +kernel
theorem dX10_ball_109 : decode cX10_ball 109 = .ok (.goto (-22), 3) := by decide +kernel
theorem dX10_ball_112 : decode cX10_ball 112 = .ok (.aload_n 0, 1) := by decide +kernel
theorem dX10_ball_113 : decode cX10_ball 113 = .ok (.getfield 9, 3) := by decide +kernel
theorem dX10_ball_116 : decode cX10_ball 116 = .ok (.bipush 9, 2) := by decide +kernel
theorem dX10_ball_118 : decode cX10_ball 118 = .ok (.iaload, 1) := by decide +kernel
theorem dX10_ball_119 : decode cX10_ball 119 = .ok (.ireturn, 1) := by decide +kernel
theorem dX10_door_0 : decode cX10_door 0 = .ok (.aload_n 0, 1) := by decide +kernel
theorem dX10_door_1 : decode cX10_door 1 = .ok (.iload_n 1, 1) := by decide +kernel
theorem dX10_door_2 : decode cX10_door 2 = .ok (.invokevirtual 218, 3) := by decide +kernel
theorem dX10_door_5 : decode cX10_door 5 = .ok (.ifCond .eq 31, 3) := by decide +kernel
theorem dX10_door_8 : decode cX10_door 8 = .ok (.iload_n 2, 1) := by decide +kernel
theorem dX10_door_9 : decode cX10_door 9 = .ok (.i2l, 1) := by decide +kernel
theorem dX10_door_10 : decode cX10_door 10 = .ok (.lconst 0, 1) := by decide +kernel
theorem dX10_door_11 : decode cX10_door 11 = .ok (.ldc2_w 80, 3) := by decide +kernel
theorem dX10_door_14 : decode cX10_door 14 = .ok (.invokestatic 82, 3) := by decide +kernel
theorem dX10_door_17 : decode cX10_door 17 = .ok (.ifCond .eq 19, 3) := by decide +kernel
theorem dX10_door_20 : decode cX10_door 20 = .ok (.aload_n 0, 1) := by decide +kernel
theorem dX10_door_21 : decode cX10_door 21 = .ok (.getfield 9, 3) := by decide +kernel
theorem dX10_door_24 : decode cX10_door 24 = .ok (.bipush 10, 2) := by decide +kernel
theorem dX10_door_26 : decode cX10_door 26 = .ok (.iconst 3, 1) := by decide +kernel
theorem dX10_door_27 : decode cX10_door 27 = .ok (.iload_n 1, 1) := by decide +kernel
theorem dX10_door_28 : decode cX10_door 28 = .ok (.imul, 1) := by decide +kernel
theorem dX10_door_29 : decode cX10_door 29 = .ok (.iadd, 1) := by decide +kernel
theorem dX10_door_30 : decode cX10_door 30 = .ok (.iload_n 2, 1) := by decide +kernel
theorem dX10_door_31 : decode cX10_door 31 = .ok (.iadd, 1) := by decide +kernel
theorem dX10_door_32 : decode cX10_door 32 = .ok (.iaload, 1) := by decide +kernel
theorem dX10_door_33 : decode cX10_door 33 = .ok (.goto 5, 3) := by decide +kernel
theorem dX10_door_36 : decode cX10_door 36 = .ok (.bipush (-2), 2) := by decide +kernel
theorem dX10_door_38 : decode cX10_door 38 = .ok (.ireturn, 1) := by decide +kernel
theorem dX10_lady_0 : decode cX10_lady 0 = .ok (.aload_n 0, 1) := by decide +kernel
theorem dX10_lady_1 : decode cX10_lady 1 = .ok (.iload_n 1, 1) := by decide +kernel
theorem dX10_lady_2 : decode cX10_lady 2 = .ok (.i2l, 1) := by decide +kernel
theorem dX10_lady_3 : decode cX10_lady 3 = .ok (.invokevirtual 222, 3) := by decide +kernel
theorem dX10_lady_6 : decode cX10_lady 6 = .ok (.ifCond .eq 29, 3) := by decide +kernel
theorem dX10_lady_9 : decode cX10_lady 9 = .ok (.iload_n 2, 1) := by decide +kernel
theorem dX10_lady_10 : decode cX10_lady 10 = .ok (.i2l, 1) := by decide +kernel
theorem dX10_lady_11 : decode cX10_lady 11 = .ok (.lconst 0, 1) := by decide +kernel
theorem dX10_lady_12 : decode cX10_lady 12 = .ok (.lconst 1, 1) := by decide +kernel
theorem dX10_lady_13 : decode cX10_lady 13 = .ok (.invokestatic 82, 3) := by decide +kernel
theorem dX10_lady_16 : decode cX10_lady 16 = .ok (.ifCond .eq 19, 3) := by decide +kernel
theorem dX10_lady_19 : decode cX10_lady 19 = .ok (.aload_n 0, 1) := by decide +kernel
theorem dX10_lady_20 : decode cX10_lady 20 = .ok (.getfield 9, 3) := by decide +kernel
theorem dX10_lady_23 : decode cX10_lady 23 = .ok (.bipush 46, 2) := by decide +kernel
theorem dX10_lady_25 : decode cX10_lady 25 = .ok (.iconst 2, 1) := by decide +kernel
theorem dX10_lady_26 : decode cX10_lady 26 = .ok (.iload_n 1, 1) := by decide +kernel
theorem dX10_lady_27 : decode cX10_lady 27 = .ok (.imul, 1) := by decide +kernel
theorem dX10_lady_28 : decode cX10_lady 28 = .ok (.iadd, 1) := by decide +kernel
theorem dX10_lady_29 : decode cX10_lady 29 = .ok (.iload_n 2, 1) := by decide +kernel
theorem dX10_lady_30 : decode cX10_lady 30 = .ok (.iadd, 1) := by decide +kernel
theorem dX10_lady_31 : decode cX10_lady 31 = .ok (.iaload, 1) := by decide +kernel
theorem dX10_lady_32 : decode cX10_lady 32 = .ok (.goto 5, 3) := by decide +kernel
theorem dX10_lady_35 : decode cX10_lady 35 = .ok (.bipush (-2), 2) := by decide +kernel
theorem dX10_lady_37 : decode cX10_lady 37 = .ok (.ireturn, 1) := by decide +kernel
theorem dX10_wayOf_0 : decode cX10_wayOf 0 = .ok (.aload_n 0, 1) := by decide +kernel
theorem dX10_wayOf_1 : decode cX10_wayOf 1 = .ok (.getfield 34, 3) := by decide +kernel
theorem dX10_wayOf_4 : decode cX10_wayOf 4 = .ok (.iload_n 1, 1) := by decide +kernel
theorem dX10_wayOf_5 : decode cX10_wayOf 5 = .ok (.bipush 8, 2) := by decide +kernel
theorem dX10_wayOf_7 : decode cX10_wayOf 7 = .ok (.imul, 1) := by decide +kernel
theorem dX10_wayOf_8 : decode cX10_wayOf 8 = .ok (.iload_n 2, 1) := by decide +kernel
theorem dX10_wayOf_9 : decode cX10_wayOf 9 = .ok (.iadd, 1) := by decide +kernel
theorem dX10_wayOf_10 : decode cX10_wayOf 10 = .ok (.bipush 8, 2) := by decide +kernel
theorem dX10_wayOf_12 : decode cX10_wayOf 12 = .ok (.imul, 1) := by decide +kernel
theorem dX10_wayOf_13 : decode cX10_wayOf 13 = .ok (.iload_n 3, 1) := by decide +kernel
theorem dX10_wayOf_14 : decode cX10_wayOf 14 = .ok (.iadd, 1) := by decide +kernel
theorem dX10_wayOf_15 : decode cX10_wayOf 15 = .ok (.iaload, 1) := by decide +kernel
theorem dX10_wayOf_16 : decode cX10_wayOf 16 = .ok (.ireturn, 1) := by decide +kernel
theorem dX10_layWays_0 : decode cX10_layWays 0 = .ok (.aload_n 0, 1) := by decide +kernel
theorem dX10_layWays_1 : decode cX10_layWays 1 = .ok (.getfield 9, 3) := by decide +kernel
theorem dX10_layWays_4 : decode cX10_layWays 4 = .ok (.iconst 0, 1) := by decide +kernel
theorem dX10_layWays_5 : decode cX10_layWays 5 = .ok (.iaload, 1) := by decide +kernel
theorem dX10_layWays_6 : decode cX10_layWays 6 = .ok (.istore_n 1, 1) := by decide +kernel
theorem dX10_layWays_7 : decode cX10_layWays 7 = .ok (.iconst 1, 1) := by decide +kernel
theorem dX10_layWays_8 : decode cX10_layWays 8 = .ok (.istore_n 2, 1) := by decide +kernel
theorem dX10_layWays_9 : decode cX10_layWays 9 = .ok (.iload_n 2, 1) := by decide +kernel
theorem dX10_layWays_10 : decode cX10_layWays 10 = .ok (.bipush 9, 2) := by decide +kernel
theorem dX10_layWays_12 : decode cX10_layWays 12 = .ok (.if_icmp .gt 274, 3) := by decide +kernel
theorem dX10_layWays_15 : decode cX10_layWays 15 = .ok (.iload_n 2, 1) := by decide +kernel
theorem dX10_layWays_16 : decode cX10_layWays 16 = .ok (.bipush 8, 2) := by decide +kernel
theorem dX10_layWays_18 : decode cX10_layWays 18 = .ok (.imul, 1) := by decide +kernel
theorem dX10_layWays_19 : decode cX10_layWays 19 = .ok (.bipush 8, 2) := by decide +kernel
theorem dX10_layWays_21 : decode cX10_layWays 21 = .ok (.imul, 1) := by decide +kernel
theorem dX10_layWays_22 : decode cX10_layWays 22 = .ok (.istore_n 3, 1) := by decide +kernel
theorem dX10_layWays_23 : decode cX10_layWays 23 = .ok (.iconst 0, 1) := by decide +kernel
theorem dX10_layWays_24 : decode cX10_layWays 24 = .ok (.istore 4, 2) := by decide +kernel
theorem dX10_layWays_26 : decode cX10_layWays 26 = .ok (.iload 4, 2) := by decide +kernel
theorem dX10_layWays_28 : decode cX10_layWays 28 = .ok (.bipush 64, 2) := by decide +kernel
theorem dX10_layWays_30 : decode cX10_layWays 30 = .ok (.if_icmp .ge 37, 3) := by decide +kernel
theorem dX10_layWays_33 : decode cX10_layWays 33 = .ok (.aload_n 0, 1) := by decide +kernel
theorem dX10_layWays_34 : decode cX10_layWays 34 = .ok (.getfield 34, 3) := by decide +kernel
theorem dX10_layWays_37 : decode cX10_layWays 37 = .ok (.iload_n 3, 1) := by decide +kernel
theorem dX10_layWays_38 : decode cX10_layWays 38 = .ok (.iload 4, 2) := by decide +kernel
theorem dX10_layWays_40 : decode cX10_layWays 40 = .ok (.iadd, 1) := by decide +kernel
theorem dX10_layWays_41 : decode cX10_layWays 41 = .ok (.iload 4, 2) := by decide +kernel
theorem dX10_layWays_43 : decode cX10_layWays 43 = .ok (.bipush 8, 2) := by decide +kernel
theorem dX10_layWays_45 : decode cX10_layWays 45 = .ok (.idiv, 1) := by decide +kernel
theorem dX10_layWays_46 : decode cX10_layWays 46 = .ok (.iload 4, 2) := by decide +kernel
theorem dX10_layWays_48 : decode cX10_layWays 48 = .ok (.bipush 8, 2) := by decide +kernel
theorem dX10_layWays_50 : decode cX10_layWays 50 = .ok (.irem, 1) := by decide +kernel
theorem dX10_layWays_51 : decode cX10_layWays 51 = .ok (.if_icmp .ne 7, 3) := by decide +kernel
theorem dX10_layWays_54 : decode cX10_layWays 54 = .ok (.iconst 0, 1) := by decide +kernel
theorem dX10_layWays_55 : decode cX10_layWays 55 = .ok (.goto 5, 3) := by decide +kernel
theorem dX10_layWays_58 : decode cX10_layWays 58 = .ok (.ldc 226, 2) := by decide +kernel
theorem dX10_layWays_60 : decode cX10_layWays 60 = .ok (.iastore, 1) := by decide +kernel
theorem dX10_layWays_61 : decode cX10_layWays 61 = .ok (.iinc 4 1, 3) := by decide +kernel
theorem dX10_layWays_64 : decode cX10_layWays 64 = .ok (.goto (-38), 3) := by decide +kernel
theorem dX10_layWays_67 : decode cX10_layWays 67 = .ok (.iconst 0, 1) := by decide +kernel
theorem dX10_layWays_68 : decode cX10_layWays 68 = .ok (.istore 4, 2) := by decide +kernel
theorem dX10_layWays_70 : decode cX10_layWays 70 = .ok (.iload 4, 2) := by decide +kernel
theorem dX10_layWays_72 : decode cX10_layWays 72 = .ok (.aload_n 0, 1) := by decide +kernel
theorem dX10_layWays_73 : decode cX10_layWays 73 = .ok (.getfield 9, 3) := by decide +kernel
theorem dX10_layWays_76 : decode cX10_layWays 76 = .ok (.iconst 4, 1) := by decide +kernel
theorem dX10_layWays_77 : decode cX10_layWays 77 = .ok (.iaload, 1) := by decide +kernel
theorem dX10_layWays_78 : decode cX10_layWays 78 = .ok (.if_icmp .ge 112, 3) := by decide +kernel
theorem dX10_layWays_81 : decode cX10_layWays 81 = .ok (.aload_n 0, 1) := by decide +kernel
theorem dX10_layWays_82 : decode cX10_layWays 82 = .ok (.getfield 9, 3) := by decide +kernel
theorem dX10_layWays_85 : decode cX10_layWays 85 = .ok (.bipush 10, 2) := by decide +kernel
theorem dX10_layWays_87 : decode cX10_layWays 87 = .ok (.iconst 3, 1) := by decide +kernel
theorem dX10_layWays_88 : decode cX10_layWays 88 = .ok (.iload 4, 2) := by decide +kernel
theorem dX10_layWays_90 : decode cX10_layWays 90 = .ok (.imul, 1) := by decide +kernel
theorem dX10_layWays_91 : decode cX10_layWays 91 = .ok (.iadd, 1) := by decide +kernel
theorem dX10_layWays_92 : decode cX10_layWays 92 = .ok (.iaload, 1) := by decide +kernel
theorem dX10_layWays_93 : decode cX10_layWays 93 = .ok (.istore 5, 2) := by decide +kernel
theorem dX10_layWays_95 : decode cX10_layWays 95 = .ok (.aload_n 0, 1) := by decide +kernel
theorem dX10_layWays_96 : decode cX10_layWays 96 = .ok (.getfield 9, 3) := by decide +kernel
theorem dX10_layWays_99 : decode cX10_layWays 99 = .ok (.bipush 10, 2) := by decide +kernel
theorem dX10_layWays_101 : decode cX10_layWays 101 = .ok (.iconst 3, 1) := by decide +kernel
theorem dX10_layWays_102 : decode cX10_layWays 102 = .ok (.iload 4, 2) := by decide +kernel
theorem dX10_layWays_104 : decode cX10_layWays 104 = .ok (.imul, 1) := by decide +kernel
theorem dX10_layWays_105 : decode cX10_layWays 105 = .ok (.iadd, 1) := by decide +kernel
theorem dX10_layWays_106 : decode cX10_layWays 106 = .ok (.iconst 1, 1) := by decide +kernel
theorem dX10_layWays_107 : decode cX10_layWays 107 = .ok (.iadd, 1) := by decide +kernel
theorem dX10_layWays_108 : decode cX10_layWays 108 = .ok (.iaload, 1) := by decide +kernel
theorem dX10_layWays_109 : decode cX10_layWays 109 = .ok (.istore 6, 2) := by decide +kernel
theorem dX10_layWays_111 : decode cX10_layWays 111 = .ok (.iload 4, 2) := by decide +kernel
theorem dX10_layWays_113 : decode cX10_layWays 113 = .ok (.aload_n 0, 1) := by decide +kernel
theorem dX10_layWays_114 : decode cX10_layWays 114 = .ok (.getfield 227, 3) := by decide +kernel
theorem dX10_layWays_117 : decode cX10_layWays 117 = .ok (.if_icmp .ne 10, 3) := by decide +kernel
theorem dX10_layWays_120 : decode cX10_layWays 120 = .ok (.aload_n 0, 1) := by decide +kernel
theorem dX10_layWays_121 : decode cX10_layWays 121 = .ok (.getfield 230, 3) := by decide +kernel
theorem dX10_layWays_124 : decode cX10_layWays 124 = .ok (.goto 17, 3) := by decide +kernel
theorem dX10_layWays_127 : decode cX10_layWays 127 = .ok (.aload_n 0, 1) := by decide +kernel
theorem dX10_layWays_128 : decode cX10_layWays 128 = .ok (.getfield 9, 3) := by decide +kernel
theorem dX10_layWays_131 : decode cX10_layWays 131 = .ok (.bipush 10, 2) := by decide +kernel
theorem dX10_layWays_133 : decode cX10_layWays 133 = .ok (.iconst 3, 1) := by decide +kernel
theorem dX10_layWays_134 : decode cX10_layWays 134 = .ok (.iload 4, 2) := by decide +kernel
theorem dX10_layWays_136 : decode cX10_layWays 136 = .ok (.imul, 1) := by decide +kernel
theorem dX10_layWays_137 : decode cX10_layWays 137 = .ok (.iadd, 1) := by decide +kernel
theorem dX10_layWays_138 : decode cX10_layWays 138 = .ok (.iconst 2, 1) := by decide +kernel
theorem dX10_layWays_139 : decode cX10_layWays 139 = .ok (.iadd, 1) := by decide +kernel
theorem dX10_layWays_140 : decode cX10_layWays 140 = .ok (.iaload, 1) := by decide +kernel
theorem dX10_layWays_141 : decode cX10_layWays 141 = .ok (.istore 7, 2) := by decide +kernel
theorem dX10_layWays_143 : decode cX10_layWays 143 = .ok (.iload 7, 2) := by decide +kernel
theorem dX10_layWays_145 : decode cX10_layWays 145 = .ok (.iload_n 2, 1) := by decide +kernel
theorem dX10_layWays_146 : decode cX10_layWays 146 = .ok (.if_icmp .ge 6, 3) := by decide +kernel
theorem dX10_layWays_149 : decode cX10_layWays 149 = .ok (.goto 35, 3) := by decide +kernel
theorem dX10_layWays_152 : decode cX10_layWays 152 = .ok (.aload_n 0, 1) := by decide +kernel
theorem dX10_layWays_153 : decode cX10_layWays 153 = .ok (.getfield 34, 3) := by decide +kernel
theorem dX10_layWays_156 : decode cX10_layWays 156 = .ok (.iload_n 3, 1) := by decide +kernel
theorem dX10_layWays_157 : decode cX10_layWays 157 = .ok (.bipush 8, 2) := by decide +kernel
theorem dX10_layWays_159 : decode cX10_layWays 159 = .ok (.iload 5, 2) := by decide +kernel
theorem dX10_layWays_161 : decode cX10_layWays 161 = .ok (.imul, 1) := by decide +kernel
theorem dX10_layWays_162 : decode cX10_layWays 162 = .ok (.iadd, 1) := by decide +kernel
theorem dX10_layWays_163 : decode cX10_layWays 163 = .ok (.iload 6, 2) := by decide +kernel
theorem dX10_layWays_165 : decode cX10_layWays 165 = .ok (.iadd, 1) := by decide +kernel
theorem dX10_layWays_166 : decode cX10_layWays 166 = .ok (.iconst 1, 1) := by decide +kernel
theorem dX10_layWays_167 : decode cX10_layWays 167 = .ok (.iastore, 1) := by decide +kernel
theorem dX10_layWays_168 : decode cX10_layWays 168 = .ok (.aload_n 0, 1) := by decide +kernel
theorem dX10_layWays_169 : decode cX10_layWays 169 = .ok (.getfield 34, 3) := by decide +kernel
theorem dX10_layWays_172 : decode cX10_layWays 172 = .ok (.iload_n 3, 1) := by decide +kernel
theorem dX10_layWays_173 : decode cX10_layWays 173 = .ok (.bipush 8, 2) := by decide +kernel
theorem dX10_layWays_175 : decode cX10_layWays 175 = .ok (.iload 6, 2) := by decide +kernel
theorem dX10_layWays_177 : decode cX10_layWays 177 = .ok (.imul, 1) := by decide +kernel
theorem dX10_layWays_178 : decode cX10_layWays 178 = .ok (.iadd, 1) := by decide +kernel
theorem dX10_layWays_179 : decode cX10_layWays 179 = .ok (.iload 5, 2) := by decide +kernel
theorem dX10_layWays_181 : decode cX10_layWays 181 = .ok (.iadd, 1) := by decide +kernel
theorem dX10_layWays_182 : decode cX10_layWays 182 = .ok (.iconst 1, 1) := by decide +kernel
theorem dX10_layWays_183 : decode cX10_layWays 183 = .ok (.iastore, 1) := by decide +kernel
theorem dX10_layWays_184 : decode cX10_layWays 184 = .ok (.iinc 4 1, 3) := by decide +kernel
theorem dX10_layWays_187 : decode cX10_layWays 187 = .ok (.goto (-117), 3) := by decide +kernel
theorem dX10_layWays_190 : decode cX10_layWays 190 = .ok (.iconst 0, 1) := by decide +kernel
theorem dX10_layWays_191 : decode cX10_layWays 191 = .ok (.istore 4, 2) := by decide +kernel
theorem dX10_layWays_193 : decode cX10_layWays 193 = .ok (.iload 4, 2) := by decide +kernel
theorem dX10_layWays_195 : decode cX10_layWays 195 = .ok (.iload_n 1, 1) := by decide +kernel
theorem dX10_layWays_196 : decode cX10_layWays 196 = .ok (.if_icmp .ge 84, 3) := by decide +kernel
theorem dX10_layWays_199 : decode cX10_layWays 199 = .ok (.iconst 0, 1) := by decide +kernel
theorem dX10_layWays_200 : decode cX10_layWays 200 = .ok (.istore 5, 2) := by decide +kernel
theorem dX10_layWays_202 : decode cX10_layWays 202 = .ok (.iload 5, 2) := by decide +kernel
theorem dX10_layWays_204 : decode cX10_layWays 204 = .ok (.iload_n 1, 1) := by decide +kernel
theorem dX10_layWays_205 : decode cX10_layWays 205 = .ok (.iload_n 1, 1) := by decide +kernel
theorem dX10_layWays_206 : decode cX10_layWays 206 = .ok (.imul, 1) := by decide +kernel
theorem dX10_layWays_207 : decode cX10_layWays 207 = .ok (.if_icmp .ge 67, 3) := by decide +kernel
theorem dX10_layWays_210 : decode cX10_layWays 210 = .ok (.aload_n 0, 1) := by decide +kernel
theorem dX10_layWays_211 : decode cX10_layWays 211 = .ok (.getfield 34, 3) := by decide +kernel
theorem dX10_layWays_214 : decode cX10_layWays 214 = .ok (.iload_n 3, 1) := by decide +kernel
theorem dX10_layWays_215 : decode cX10_layWays 215 = .ok (.bipush 8, 2) := by decide +kernel
theorem dX10_layWays_217 : decode cX10_layWays 217 = .ok (.iload 5, 2) := by decide +kernel
theorem dX10_layWays_219 : decode cX10_layWays 219 = .ok (.iload_n 1, 1) := by decide +kernel
theorem dX10_layWays_220 : decode cX10_layWays 220 = .ok (.idiv, 1) := by decide +kernel
theorem dX10_layWays_221 : decode cX10_layWays 221 = .ok (.imul, 1) := by decide +kernel
theorem dX10_layWays_222 : decode cX10_layWays 222 = .ok (.iadd, 1) := by decide +kernel
theorem dX10_layWays_223 : decode cX10_layWays 223 = .ok (.iload 5, 2) := by decide +kernel
theorem dX10_layWays_225 : decode cX10_layWays 225 = .ok (.iload_n 1, 1) := by decide +kernel
theorem dX10_layWays_226 : decode cX10_layWays 226 = .ok (.irem, 1) := by decide +kernel
theorem dX10_layWays_227 : decode cX10_layWays 227 = .ok (.iadd, 1) := by decide +kernel
theorem dX10_layWays_228 : decode cX10_layWays 228 = .ok (.aload_n 0, 1) := by decide +kernel
theorem dX10_layWays_229 : decode cX10_layWays 229 = .ok (.iload_n 2, 1) := by decide +kernel
theorem dX10_layWays_230 : decode cX10_layWays 230 = .ok (.iload 5, 2) := by decide +kernel
theorem dX10_layWays_232 : decode cX10_layWays 232 = .ok (.iload_n 1, 1) := by decide +kernel
theorem dX10_layWays_233 : decode cX10_layWays 233 = .ok (.idiv, 1) := by decide +kernel
theorem dX10_layWays_234 : decode cX10_layWays 234 = .ok (.iload 5, 2) := by decide +kernel
theorem dX10_layWays_236 : decode cX10_layWays 236 = .ok (.iload_n 1, 1) := by decide +kernel
theorem dX10_layWays_237 : decode cX10_layWays 237 = .ok (.irem, 1) := by decide +kernel
theorem dX10_layWays_238 : decode cX10_layWays 238 = .ok (.invokevirtual 233, 3) := by decide +kernel
theorem dX10_layWays_241 : decode cX10_layWays 241 = .ok (.aload_n 0, 1) := by decide +kernel
theorem dX10_layWays_242 : decode cX10_layWays 242 = .ok (.iload_n 2, 1) := by decide +kernel
theorem dX10_layWays_243 : decode cX10_layWays 243 = .ok (.iload 5, 2) := by decide +kernel
theorem dX10_layWays_245 : decode cX10_layWays 245 = .ok (.iload_n 1, 1) := by decide +kernel
theorem dX10_layWays_246 : decode cX10_layWays 246 = .ok (.idiv, 1) := by decide +kernel
theorem dX10_layWays_247 : decode cX10_layWays 247 = .ok (.iload 4, 2) := by decide +kernel
theorem dX10_layWays_249 : decode cX10_layWays 249 = .ok (.invokevirtual 233, 3) := by decide +kernel
theorem dX10_layWays_252 : decode cX10_layWays 252 = .ok (.aload_n 0, 1) := by decide +kernel
theorem dX10_layWays_253 : decode cX10_layWays 253 = .ok (.iload_n 2, 1) := by decide +kernel
theorem dX10_layWays_254 : decode cX10_layWays 254 = .ok (.iload 4, 2) := by decide +kernel
theorem dX10_layWays_256 : decode cX10_layWays 256 = .ok (.iload 5, 2) := by decide +kernel
theorem dX10_layWays_258 : decode cX10_layWays 258 = .ok (.iload_n 1, 1) := by decide +kernel
theorem dX10_layWays_259 : decode cX10_layWays 259 = .ok (.irem, 1) := by decide +kernel
theorem dX10_layWays_260 : decode cX10_layWays 260 = .ok (.invokevirtual 233, 3) := by decide +kernel
theorem dX10_layWays_263 : decode cX10_layWays 263 = .ok (.iadd, 1) := by decide +kernel
theorem dX10_layWays_264 : decode cX10_layWays 264 = .ok (.invokestatic 121, 3) := by decide +kernel
theorem dX10_layWays_267 : decode cX10_layWays 267 = .ok (.iastore, 1) := by decide +kernel
theorem dX10_layWays_268 : decode cX10_layWays 268 = .ok (.iinc 5 1, 3) := by decide +kernel
theorem dX10_layWays_271 : decode cX10_layWays 271 = .ok (.goto (-69), 3) := by decide +kernel
theorem dX10_layWays_274 : decode cX10_layWays 274 = .ok (.iinc 4 1, 3) := by decide +kernel
theorem dX10_layWays_277 : decode cX10_layWays 277 = .ok (.goto (-84), 3) := by decide +kernel
theorem dX10_layWays_280 : decode cX10_layWays 280 = .ok (.iinc 2 1, 3) := by decide +kernel
theorem dX10_layWays_283 : decode cX10_layWays 283 = .ok (.goto (-274), 3) := by decide +kernel
theorem dX10_layWays_286 : decode cX10_layWays 286 = .ok (.return_, 1) := by decide +kernel
theorem dX10_atOf_0 : decode cX10_atOf 0 = .ok (.aload_n 0, 1) := by decide +kernel
theorem dX10_atOf_1 : decode cX10_atOf 1 = .ok (.getfield 37, 3) := by decide +kernel
theorem dX10_atOf_4 : decode cX10_atOf 4 = .ok (.bipush 6, 2) := by decide +kernel
theorem dX10_atOf_6 : decode cX10_atOf 6 = .ok (.iload_n 2, 1) := by decide +kernel
theorem dX10_atOf_7 : decode cX10_atOf 7 = .ok (.imul, 1) := by decide +kernel
theorem dX10_atOf_8 : decode cX10_atOf 8 = .ok (.iload_n 1, 1) := by decide +kernel
theorem dX10_atOf_9 : decode cX10_atOf 9 = .ok (.iadd, 1) := by decide +kernel
theorem dX10_atOf_10 : decode cX10_atOf 10 = .ok (.iaload, 1) := by decide +kernel
theorem dX10_atOf_11 : decode cX10_atOf 11 = .ok (.ireturn, 1) := by decide +kernel
theorem dX10_biddenOf_0 : decode cX10_biddenOf 0 = .ok (.iconst (-1), 1) := by decide +kernel
theorem dX10_biddenOf_1 : decode cX10_biddenOf 1 = .ok (.istore_n 3, 1) := by decide +kernel
theorem dX10_biddenOf_2 : decode cX10_biddenOf 2 = .ok (.iconst (-1), 1) := by decide +kernel
theorem dX10_biddenOf_3 : decode cX10_biddenOf 3 = .ok (.istore 4, 2) := by decide +kernel
theorem dX10_biddenOf_5 : decode cX10_biddenOf 5 = .ok (.iconst 0, 1) := by decide +kernel
theorem dX10_biddenOf_6 : decode cX10_biddenOf 6 = .ok (.istore 5, 2) := by decide +kernel
theorem dX10_biddenOf_8 : decode cX10_biddenOf 8 = .ok (.iload 5, 2) := by decide +kernel
theorem dX10_biddenOf_10 : decode cX10_biddenOf 10 = .ok (.aload_n 0, 1) := by decide +kernel
theorem dX10_biddenOf_11 : decode cX10_biddenOf 11 = .ok (.getfield 9, 3) := by decide +kernel
theorem dX10_biddenOf_14 : decode cX10_biddenOf 14 = .ok (.bipush 7, 2) := by decide +kernel
theorem dX10_biddenOf_16 : decode cX10_biddenOf 16 = .ok (.iaload, 1) := by decide +kernel
theorem dX10_biddenOf_17 : decode cX10_biddenOf 17 = .ok (.aload_n 0, 1) := by decide +kernel
theorem dX10_biddenOf_18 : decode cX10_biddenOf 18 = .ok (.getfield 9, 3) := by decide +kernel
theorem dX10_biddenOf_21 : decode cX10_biddenOf 21 = .ok (.bipush 8, 2) := by decide +kernel
theorem dX10_biddenOf_23 : decode cX10_biddenOf 23 = .ok (.iaload, 1) := by decide +kernel
theorem dX10_biddenOf_24 : decode cX10_biddenOf 24 = .ok (.iadd, 1) := by decide +kernel
theorem dX10_biddenOf_25 : decode cX10_biddenOf 25 = .ok (.if_icmp .ge 185, 3) := by decide +kernel
theorem dX10_biddenOf_28 : decode cX10_biddenOf 28 = .ok (.iload 5, 2) := by decide +kernel
theorem dX10_biddenOf_30 : decode cX10_biddenOf 30 = .ok (.aload_n 0, 1) := by decide +kernel
theorem dX10_biddenOf_31 : decode cX10_biddenOf 31 = .ok (.getfield 9, 3) := by decide +kernel
theorem dX10_biddenOf_34 : decode cX10_biddenOf 34 = .ok (.bipush 7, 2) := by decide +kernel
theorem dX10_biddenOf_36 : decode cX10_biddenOf 36 = .ok (.iaload, 1) := by decide +kernel
theorem dX10_biddenOf_37 : decode cX10_biddenOf 37 = .ok (.if_icmp .ge 7, 3) := by decide +kernel
theorem dX10_biddenOf_40 : decode cX10_biddenOf 40 = .ok (.iconst 1, 1) := by decide +kernel
theorem dX10_biddenOf_41 : decode cX10_biddenOf 41 = .ok (.goto 4, 3) := by decide +kernel
theorem dX10_biddenOf_44 : decode cX10_biddenOf 44 = .ok (.iconst 0, 1) := by decide +kernel
theorem dX10_biddenOf_45 : decode cX10_biddenOf 45 = .ok (.istore 6, 2) := by decide +kernel
theorem dX10_biddenOf_47 : decode cX10_biddenOf 47 = .ok (.iload 6, 2) := by decide +kernel
theorem dX10_biddenOf_49 : decode cX10_biddenOf 49 = .ok (.ifCond .eq 7, 3) := by decide +kernel
theorem dX10_biddenOf_52 : decode cX10_biddenOf 52 = .ok (.iconst 0, 1) := by decide +kernel
theorem dX10_biddenOf_53 : decode cX10_biddenOf 53 = .ok (.goto 21, 3) := by decide +kernel
theorem dX10_biddenOf_56 : decode cX10_biddenOf 56 = .ok (.aload_n 0, 1) := by decide +kernel
theorem dX10_biddenOf_57 : decode cX10_biddenOf 57 = .ok (.getfield 9, 3) := by decide +kernel
theorem dX10_biddenOf_60 : decode cX10_biddenOf 60 = .ok (.bipush 104, 2) := by decide +kernel
theorem dX10_biddenOf_62 : decode cX10_biddenOf 62 = .ok (.iload 5, 2) := by decide +kernel
theorem dX10_biddenOf_64 : decode cX10_biddenOf 64 = .ok (.iadd, 1) := by decide +kernel
theorem dX10_biddenOf_65 : decode cX10_biddenOf 65 = .ok (.aload_n 0, 1) := by decide +kernel
theorem dX10_biddenOf_66 : decode cX10_biddenOf 66 = .ok (.getfield 9, 3) := by decide +kernel
theorem dX10_biddenOf_69 : decode cX10_biddenOf 69 = .ok (.bipush 7, 2) := by decide +kernel
theorem dX10_biddenOf_71 : decode cX10_biddenOf 71 = .ok (.iaload, 1) := by decide +kernel
theorem dX10_biddenOf_72 : decode cX10_biddenOf 72 = .ok (.isub, 1) := by decide +kernel
theorem dX10_biddenOf_73 : decode cX10_biddenOf 73 = .ok (.iaload, 1) := by decide +kernel
theorem dX10_biddenOf_74 : decode cX10_biddenOf 74 = .ok (.istore 7, 2) := by decide +kernel
theorem dX10_biddenOf_76 : decode cX10_biddenOf 76 = .ok (.iload 7, 2) := by decide +kernel
theorem dX10_biddenOf_78 : decode cX10_biddenOf 78 = .ok (.ldc 237, 2) := by decide +kernel
theorem dX10_biddenOf_80 : decode cX10_biddenOf 80 = .ok (.if_icmp .lt 6, 3) := by decide +kernel
theorem dX10_biddenOf_83 : decode cX10_biddenOf 83 = .ok (.goto 121, 3) := by decide +kernel
theorem dX10_biddenOf_86 : decode cX10_biddenOf 86 = .ok (.iload 6, 2) := by decide +kernel
theorem dX10_biddenOf_88 : decode cX10_biddenOf 88 = .ok (.ifCond .eq 18, 3) := by decide +kernel
theorem dX10_biddenOf_91 : decode cX10_biddenOf 91 = .ok (.aload_n 0, 1) := by decide +kernel
theorem dX10_biddenOf_92 : decode cX10_biddenOf 92 = .ok (.getfield 9, 3) := by decide +kernel
theorem dX10_biddenOf_95 : decode cX10_biddenOf 95 = .ok (.bipush 74, 2) := by decide +kernel
theorem dX10_biddenOf_97 : decode cX10_biddenOf 97 = .ok (.iconst 3, 1) := by decide +kernel
theorem dX10_biddenOf_98 : decode cX10_biddenOf 98 = .ok (.iload 5, 2) := by decide +kernel
theorem dX10_biddenOf_100 : decode cX10_biddenOf 100 = .ok (.imul, 1) := by decide +kernel
theorem dX10_biddenOf_101 : decode cX10_biddenOf 101 = .ok (.iadd, 1) := by decide +kernel
theorem dX10_biddenOf_102 : decode cX10_biddenOf 102 = .ok (.iaload, 1) := by decide +kernel
theorem dX10_biddenOf_103 : decode cX10_biddenOf 103 = .ok (.goto 9, 3) := by decide +kernel
theorem dX10_biddenOf_106 : decode cX10_biddenOf 106 = .ok (.iload 7, 2) := by decide +kernel
theorem dX10_biddenOf_108 : decode cX10_biddenOf 108 = .ok (.sipush 1000, 3) := by decide +kernel
theorem dX10_biddenOf_111 : decode cX10_biddenOf 111 = .ok (.idiv, 1) := by decide +kernel
theorem dX10_biddenOf_112 : decode cX10_biddenOf 112 = .ok (.istore 8, 2) := by decide +kernel
theorem dX10_biddenOf_114 : decode cX10_biddenOf 114 = .ok (.iload 6, 2) := by decide +kernel
theorem dX10_biddenOf_116 : decode cX10_biddenOf 116 = .ok (.ifCond .eq 20, 3) := by decide +kernel
theorem dX10_biddenOf_119 : decode cX10_biddenOf 119 = .ok (.aload_n 0, 1) := by decide +kernel
theorem dX10_biddenOf_120 : decode cX10_biddenOf 120 = .ok (.getfield 9, 3) := by decide +kernel
theorem dX10_biddenOf_123 : decode cX10_biddenOf 123 = .ok (.bipush 74, 2) := by decide +kernel
theorem dX10_biddenOf_125 : decode cX10_biddenOf 125 = .ok (.iconst 3, 1) := by decide +kernel
theorem dX10_biddenOf_126 : decode cX10_biddenOf 126 = .ok (.iload 5, 2) := by decide +kernel
theorem dX10_biddenOf_128 : decode cX10_biddenOf 128 = .ok (.imul, 1) := by decide +kernel
theorem dX10_biddenOf_129 : decode cX10_biddenOf 129 = .ok (.iadd, 1) := by decide +kernel
theorem dX10_biddenOf_130 : decode cX10_biddenOf 130 = .ok (.iconst 1, 1) := by decide +kernel
theorem dX10_biddenOf_131 : decode cX10_biddenOf 131 = .ok (.iadd, 1) := by decide +kernel
theorem dX10_biddenOf_132 : decode cX10_biddenOf 132 = .ok (.iaload, 1) := by decide +kernel
theorem dX10_biddenOf_133 : decode cX10_biddenOf 133 = .ok (.goto 11, 3) := by decide +kernel
theorem dX10_biddenOf_136 : decode cX10_biddenOf 136 = .ok (.iload 7, 2) := by decide +kernel
theorem dX10_biddenOf_138 : decode cX10_biddenOf 138 = .ok (.bipush 100, 2) := by decide +kernel
theorem dX10_biddenOf_140 : decode cX10_biddenOf 140 = .ok (.idiv, 1) := by decide +kernel
theorem dX10_biddenOf_141 : decode cX10_biddenOf 141 = .ok (.bipush 10, 2) := by decide +kernel
theorem dX10_biddenOf_143 : decode cX10_biddenOf 143 = .ok (.irem, 1) := by decide +kernel
theorem dX10_biddenOf_144 : decode cX10_biddenOf 144 = .ok (.istore 9, 2) := by decide +kernel
theorem dX10_biddenOf_146 : decode cX10_biddenOf 146 = .ok (.iload 6, 2) := by decide +kernel
theorem dX10_biddenOf_148 : decode cX10_biddenOf 148 = .ok (.ifCond .eq 20, 3) := by decide +kernel
theorem dX10_biddenOf_151 : decode cX10_biddenOf 151 = .ok (.aload_n 0, 1) := by decide +kernel
theorem dX10_biddenOf_152 : decode cX10_biddenOf 152 = .ok (.getfield 9, 3) := by decide +kernel
theorem dX10_biddenOf_155 : decode cX10_biddenOf 155 = .ok (.bipush 74, 2) := by decide +kernel
theorem dX10_biddenOf_157 : decode cX10_biddenOf 157 = .ok (.iconst 3, 1) := by decide +kernel
theorem dX10_biddenOf_158 : decode cX10_biddenOf 158 = .ok (.iload 5, 2) := by decide +kernel
theorem dX10_biddenOf_160 : decode cX10_biddenOf 160 = .ok (.imul, 1) := by decide +kernel
theorem dX10_biddenOf_161 : decode cX10_biddenOf 161 = .ok (.iadd, 1) := by decide +kernel
theorem dX10_biddenOf_162 : decode cX10_biddenOf 162 = .ok (.iconst 2, 1) := by decide +kernel
theorem dX10_biddenOf_163 : decode cX10_biddenOf 163 = .ok (.iadd, 1) := by decide +kernel
theorem dX10_biddenOf_164 : decode cX10_biddenOf 164 = .ok (.iaload, 1) := by decide +kernel
theorem dX10_biddenOf_165 : decode cX10_biddenOf 165 = .ok (.goto 8, 3) := by decide +kernel
theorem dX10_biddenOf_168 : decode cX10_biddenOf 168 = .ok (.iload 7, 2) := by decide +kernel
theorem dX10_biddenOf_170 : decode cX10_biddenOf 170 = .ok (.bipush 100, 2) := by decide +kernel
theorem dX10_biddenOf_172 : decode cX10_biddenOf 172 = .ok (.irem, 1) := by decide +kernel
theorem dX10_biddenOf_173 : decode cX10_biddenOf 173 = .ok (.istore 10, 2) := by decide +kernel
theorem dX10_biddenOf_175 : decode cX10_biddenOf 175 = .ok (.iload 8, 2) := by decide +kernel
theorem dX10_biddenOf_177 : decode cX10_biddenOf 177 = .ok (.iload_n 1, 1) := by decide +kernel
theorem dX10_biddenOf_178 : decode cX10_biddenOf 178 = .ok (.if_icmp .ne 26, 3) := by decide +kernel
theorem dX10_biddenOf_181 : decode cX10_biddenOf 181 = .ok (.iload 10, 2) := by decide +kernel
theorem dX10_biddenOf_183 : decode cX10_biddenOf 183 = .ok (.iload_n 2, 1) := by decide +kernel
theorem dX10_biddenOf_184 : decode cX10_biddenOf 184 = .ok (.if_icmp .gt 20, 3) := by decide +kernel
theorem dX10_biddenOf_187 : decode cX10_biddenOf 187 = .ok (.iload 10, 2) := by decide +kernel
theorem dX10_biddenOf_189 : decode cX10_biddenOf 189 = .ok (.iload 4, 2) := by decide +kernel
theorem dX10_biddenOf_191 : decode cX10_biddenOf 191 = .ok (.if_icmp .ge 6, 3) := by decide +kernel
theorem dX10_biddenOf_194 : decode cX10_biddenOf 194 = .ok (.goto 10, 3) := by decide +kernel
theorem dX10_biddenOf_197 : decode cX10_biddenOf 197 = .ok (.iload 10, 2) := by decide +kernel
theorem dX10_biddenOf_199 : decode cX10_biddenOf 199 = .ok (.istore 4, 2) := by decide +kernel
theorem dX10_biddenOf_201 : decode cX10_biddenOf 201 = .ok (.iload 9, 2) := by decide +kernel
theorem dX10_biddenOf_203 : decode cX10_biddenOf 203 = .ok (.istore_n 3, 1) := by decide +kernel
theorem dX10_biddenOf_204 : decode cX10_biddenOf 204 = .ok (.iinc 5 1, 3) := by decide +kernel
theorem dX10_biddenOf_207 : decode cX10_biddenOf 207 = .ok (.goto (-199), 3) := by decide +kernel
theorem dX10_biddenOf_210 : decode cX10_biddenOf 210 = .ok (.iload_n 3, 1) := by decide +kernel
theorem dX10_biddenOf_211 : decode cX10_biddenOf 211 = .ok (.ireturn, 1) := by decide +kernel
theorem dX10_nextRoom_0 : decode cX10_nextRoom 0 = .ok (.aload_n 0, 1) := by decide +kernel
theorem dX10_nextRoom_1 : decode cX10_nextRoom 1 = .ok (.iload_n 1, 1) := by decide +kernel
theorem dX10_nextRoom_2 : decode cX10_nextRoom 2 = .ok (.invokevirtual 238, 3) := by decide +kernel
theorem dX10_nextRoom_5 : decode cX10_nextRoom 5 = .ok (.istore 4, 2) := by decide +kernel
theorem dX10_nextRoom_7 : decode cX10_nextRoom 7 = .ok (.iload_n 3, 1) := by decide +kernel
theorem dX10_nextRoom_8 : decode cX10_nextRoom 8 = .ok (.iconst (-1), 1) := by decide +kernel
theorem dX10_nextRoom_9 : decode cX10_nextRoom 9 = .ok (.if_icmp .eq 21, 3) := by decide +kernel
theorem dX10_nextRoom_12 : decode cX10_nextRoom 12 = .ok (.iload_n 2, 1) := by decide +kernel
theorem dX10_nextRoom_13 : decode cX10_nextRoom 13 = .ok (.iload_n 3, 1) := by decide +kernel
theorem dX10_nextRoom_14 : decode cX10_nextRoom 14 = .ok (.if_icmp .eq 16, 3) := by decide +kernel
theorem dX10_nextRoom_17 : decode cX10_nextRoom 17 = .ok (.aload_n 0, 1) := by decide +kernel
theorem dX10_nextRoom_18 : decode cX10_nextRoom 18 = .ok (.iload 4, 2) := by decide +kernel
theorem dX10_nextRoom_20 : decode cX10_nextRoom 20 = .ok (.iload_n 2, 1) := by decide +kernel
theorem dX10_nextRoom_21 : decode cX10_nextRoom 21 = .ok (.iload_n 3, 1) := by decide +kernel
theorem dX10_nextRoom_22 : decode cX10_nextRoom 22 = .ok (.invokevirtual 233, 3) := by decide +kernel
theorem dX10_nextRoom_25 : decode cX10_nextRoom 25 = .ok (.ldc 226, 2) := by decide +kernel
theorem dX10_nextRoom_27 : decode cX10_nextRoom 27 = .ok (.if_icmp .lt 5, 3) := by decide +kernel
theorem dX10_nextRoom_30 : decode cX10_nextRoom 30 = .ok (.iload_n 2, 1) := by decide +kernel
theorem dX10_nextRoom_31 : decode cX10_nextRoom 31 = .ok (.ireturn, 1) := by decide +kernel
theorem dX10_nextRoom_32 : decode cX10_nextRoom 32 = .ok (.iconst 0, 1) := by decide +kernel
theorem dX10_nextRoom_33 : decode cX10_nextRoom 33 = .ok (.istore 5, 2) := by decide +kernel
theorem dX10_nextRoom_35 : decode cX10_nextRoom 35 = .ok (.aload_n 0, 1) := by decide +kernel
theorem dX10_nextRoom_36 : decode cX10_nextRoom 36 = .ok (.iload 4, 2) := by decide +kernel
theorem dX10_nextRoom_38 : decode cX10_nextRoom 38 = .ok (.iload_n 2, 1) := by decide +kernel
theorem dX10_nextRoom_39 : decode cX10_nextRoom 39 = .ok (.iload 5, 2) := by decide +kernel
theorem dX10_nextRoom_41 : decode cX10_nextRoom 41 = .ok (.invokevirtual 233, 3) := by decide +kernel
theorem dX10_nextRoom_44 : decode cX10_nextRoom 44 = .ok (.iconst 1, 1) := by decide +kernel
theorem dX10_nextRoom_45 : decode cX10_nextRoom 45 = .ok (.if_icmp .ne 25, 3) := by decide +kernel
theorem dX10_nextRoom_48 : decode cX10_nextRoom 48 = .ok (.aload_n 0, 1) := by decide +kernel
theorem dX10_nextRoom_49 : decode cX10_nextRoom 49 = .ok (.iload 4, 2) := by decide +kernel
theorem dX10_nextRoom_51 : decode cX10_nextRoom 51 = .ok (.iload 5, 2) := by decide +kernel
theorem dX10_nextRoom_53 : decode cX10_nextRoom 53 = .ok (.iload_n 3, 1) := by decide +kernel
theorem dX10_nextRoom_54 : decode cX10_nextRoom 54 = .ok (.invokevirtual 233, 3) := by decide +kernel
theorem dX10_nextRoom_57 : decode cX10_nextRoom 57 = .ok (.aload_n 0, 1) := by decide +kernel
theorem dX10_nextRoom_58 : decode cX10_nextRoom 58 = .ok (.iload 4, 2) := by decide +kernel
theorem dX10_nextRoom_60 : decode cX10_nextRoom 60 = .ok (.iload_n 2, 1) := by decide +kernel
theorem dX10_nextRoom_61 : decode cX10_nextRoom 61 = .ok (.iload_n 3, 1) := by decide +kernel
theorem dX10_nextRoom_62 : decode cX10_nextRoom 62 = .ok (.invokevirtual 233, 3) := by decide +kernel
theorem dX10_nextRoom_65 : decode cX10_nextRoom 65 = .ok (.iconst 1, 1) := by decide +kernel
theorem dX10_nextRoom_66 : decode cX10_nextRoom 66 = .ok (.isub, 1) := by decide +kernel
theorem dX10_nextRoom_67 : decode cX10_nextRoom 67 = .ok (.if_icmp .eq 9, 3) := by decide +kernel
theorem dX10_nextRoom_70 : decode cX10_nextRoom 70 = .ok (.iinc 5 1, 3) := by decide +kernel
theorem dX10_nextRoom_73 : decode cX10_nextRoom 73 = .ok (.goto (-38), 3) := by decide +kernel
theorem dX10_nextRoom_76 : decode cX10_nextRoom 76 = .ok (.iload 5, 2) := by decide +kernel
theorem dX10_nextRoom_78 : decode cX10_nextRoom 78 = .ok (.ireturn, 1) := by decide +kernel
theorem dX10_layPlaces_0 : decode cX10_layPlaces 0 = .ok (.aload_n 0, 1) := by decide +kernel
theorem dX10_layPlaces_1 : decode cX10_layPlaces 1 = .ok (.invokevirtual 241, 3) := by decide +kernel
theorem dX10_layPlaces_4 : decode cX10_layPlaces 4 = .ok (.iconst 0, 1) := by decide +kernel
theorem dX10_layPlaces_5 : decode cX10_layPlaces 5 = .ok (.istore_n 1, 1) := by decide +kernel
theorem dX10_layPlaces_6 : decode cX10_layPlaces 6 = .ok (.iload_n 1, 1) := by decide +kernel
theorem dX10_layPlaces_7 : decode cX10_layPlaces 7 = .ok (.aload_n 0, 1) := by decide +kernel
theorem dX10_layPlaces_8 : decode cX10_layPlaces 8 = .ok (.invokevirtual 244, 3) := by decide +kernel
theorem dX10_layPlaces_11 : decode cX10_layPlaces 11 = .ok (.if_icmp .ge 93, 3) := by decide +kernel
theorem dX10_layPlaces_14 : decode cX10_layPlaces 14 = .ok (.aload_n 0, 1) := by decide +kernel
theorem dX10_layPlaces_15 : decode cX10_layPlaces 15 = .ok (.getfield 37, 3) := by decide +kernel
theorem dX10_layPlaces_18 : decode cX10_layPlaces 18 = .ok (.iload_n 1, 1) := by decide +kernel
theorem dX10_layPlaces_19 : decode cX10_layPlaces 19 = .ok (.aload_n 0, 1) := by decide +kernel
theorem dX10_layPlaces_20 : decode cX10_layPlaces 20 = .ok (.getfield 9, 3) := by decide +kernel
theorem dX10_layPlaces_23 : decode cX10_layPlaces 23 = .ok (.bipush 46, 2) := by decide +kernel
theorem dX10_layPlaces_25 : decode cX10_layPlaces 25 = .ok (.iconst 2, 1) := by decide +kernel
theorem dX10_layPlaces_26 : decode cX10_layPlaces 26 = .ok (.iload_n 1, 1) := by decide +kernel
theorem dX10_layPlaces_27 : decode cX10_layPlaces 27 = .ok (.imul, 1) := by decide +kernel
theorem dX10_layPlaces_28 : decode cX10_layPlaces 28 = .ok (.iadd, 1) := by decide +kernel
theorem dX10_layPlaces_29 : decode cX10_layPlaces 29 = .ok (.iaload, 1) := by decide +kernel
theorem dX10_layPlaces_30 : decode cX10_layPlaces 30 = .ok (.iastore, 1) := by decide +kernel
theorem dX10_layPlaces_31 : decode cX10_layPlaces 31 = .ok (.iconst 0, 1) := by decide +kernel
theorem dX10_layPlaces_32 : decode cX10_layPlaces 32 = .ok (.istore_n 2, 1) := by decide +kernel
theorem dX10_layPlaces_33 : decode cX10_layPlaces 33 = .ok (.iload_n 2, 1) := by decide +kernel
theorem dX10_layPlaces_34 : decode cX10_layPlaces 34 = .ok (.aload_n 0, 1) := by decide +kernel
theorem dX10_layPlaces_35 : decode cX10_layPlaces 35 = .ok (.invokevirtual 247, 3) := by decide +kernel
theorem dX10_layPlaces_38 : decode cX10_layPlaces 38 = .ok (.if_icmp .ge 60, 3) := by decide +kernel
theorem dX10_layPlaces_41 : decode cX10_layPlaces 41 = .ok (.aload_n 0, 1) := by decide +kernel
theorem dX10_layPlaces_42 : decode cX10_layPlaces 42 = .ok (.getfield 37, 3) := by decide +kernel
theorem dX10_layPlaces_45 : decode cX10_layPlaces 45 = .ok (.bipush 6, 2) := by decide +kernel
theorem dX10_layPlaces_47 : decode cX10_layPlaces 47 = .ok (.iload_n 2, 1) := by decide +kernel
theorem dX10_layPlaces_48 : decode cX10_layPlaces 48 = .ok (.iconst 1, 1) := by decide +kernel
theorem dX10_layPlaces_49 : decode cX10_layPlaces 49 = .ok (.iadd, 1) := by decide +kernel
theorem dX10_layPlaces_50 : decode cX10_layPlaces 50 = .ok (.imul, 1) := by decide +kernel
theorem dX10_layPlaces_51 : decode cX10_layPlaces 51 = .ok (.iload_n 1, 1) := by decide +kernel
theorem dX10_layPlaces_52 : decode cX10_layPlaces 52 = .ok (.iadd, 1) := by decide +kernel
theorem dX10_layPlaces_53 : decode cX10_layPlaces 53 = .ok (.aload_n 0, 1) := by decide +kernel
theorem dX10_layPlaces_54 : decode cX10_layPlaces 54 = .ok (.getfield 249, 3) := by decide +kernel
theorem dX10_layPlaces_57 : decode cX10_layPlaces 57 = .ok (.iload_n 1, 1) := by decide +kernel
theorem dX10_layPlaces_58 : decode cX10_layPlaces 58 = .ok (.invokestatic 252, 3) := by decide +kernel
theorem dX10_layPlaces_61 : decode cX10_layPlaces 61 = .ok (.iconst 1, 1) := by decide +kernel
theorem dX10_layPlaces_62 : decode cX10_layPlaces 62 = .ok (.if_icmp .ne 12, 3) := by decide +kernel
theorem dX10_layPlaces_65 : decode cX10_layPlaces 65 = .ok (.aload_n 0, 1) := by decide +kernel
theorem dX10_layPlaces_66 : decode cX10_layPlaces 66 = .ok (.getfield 37, 3) := by decide +kernel
theorem dX10_layPlaces_69 : decode cX10_layPlaces 69 = .ok (.iload_n 1, 1) := by decide +kernel
theorem dX10_layPlaces_70 : decode cX10_layPlaces 70 = .ok (.iaload, 1) := by decide +kernel
theorem dX10_layPlaces_71 : decode cX10_layPlaces 71 = .ok (.goto 20, 3) := by decide +kernel
theorem dX10_layPlaces_74 : decode cX10_layPlaces 74 = .ok (.aload_n 0, 1) := by decide +kernel
theorem dX10_layPlaces_75 : decode cX10_layPlaces 75 = .ok (.iload_n 1, 1) := by decide +kernel
theorem dX10_layPlaces_76 : decode cX10_layPlaces 76 = .ok (.aload_n 0, 1) := by decide +kernel
theorem dX10_layPlaces_77 : decode cX10_layPlaces 77 = .ok (.iload_n 1, 1) := by decide +kernel
theorem dX10_layPlaces_78 : decode cX10_layPlaces 78 = .ok (.iload_n 2, 1) := by decide +kernel
theorem dX10_layPlaces_79 : decode cX10_layPlaces 79 = .ok (.invokevirtual 255, 3) := by decide +kernel
theorem dX10_layPlaces_82 : decode cX10_layPlaces 82 = .ok (.aload_n 0, 1) := by decide +kernel
theorem dX10_layPlaces_83 : decode cX10_layPlaces 83 = .ok (.iload_n 1, 1) := by decide +kernel
theorem dX10_layPlaces_84 : decode cX10_layPlaces 84 = .ok (.iload_n 2, 1) := by decide +kernel
theorem dX10_layPlaces_85 : decode cX10_layPlaces 85 = .ok (.invokevirtual 258, 3) := by decide +kernel
theorem dX10_layPlaces_88 : decode cX10_layPlaces 88 = .ok (.invokevirtual 261, 3) := by decide +kernel
theorem dX10_layPlaces_91 : decode cX10_layPlaces 91 = .ok (.iastore, 1) := by decide +kernel
theorem dX10_layPlaces_92 : decode cX10_layPlaces 92 = .ok (.iinc 2 1, 3) := by decide +kernel
theorem dX10_layPlaces_95 : decode cX10_layPlaces 95 = .ok (.goto (-62), 3) := by decide +kernel
theorem dX10_layPlaces_98 : decode cX10_layPlaces 98 = .ok (.iinc 1 1, 3) := by decide +kernel
theorem dX10_layPlaces_101 : decode cX10_layPlaces 101 = .ok (.goto (-95), 3) := by decide +kernel
theorem dX10_layPlaces_104 : decode cX10_layPlaces 104 = .ok (.return_, 1) := by decide +kernel
theorem dX10_layMinisters_0 : decode cX10_layMinisters 0 = .ok (.iconst 0, 1) := by decide +kernel
theorem dX10_layMinisters_1 : decode cX10_layMinisters 1 = .ok (.istore_n 1, 1) := by decide +kernel
theorem dX10_layMinisters_2 : decode cX10_layMinisters 2 = .ok (.iload_n 1, 1) := by decide +kernel
theorem dX10_layMinisters_3 : decode cX10_layMinisters 3 = .ok (.aload_n 0, 1) := by decide +kernel
theorem dX10_layMinisters_4 : decode cX10_layMinisters 4 = .ok (.getfield 9, 3) := by decide +kernel
theorem dX10_layMinisters_7 : decode cX10_layMinisters 7 = .ok (.bipush 6, 2) := by decide +kernel
theorem dX10_layMinisters_9 : decode cX10_layMinisters 9 = .ok (.iaload, 1) := by decide +kernel
theorem dX10_layMinisters_10 : decode cX10_layMinisters 10 = .ok (.if_icmp .ge 26, 3) := by decide +kernel
theorem dX10_layMinisters_13 : decode cX10_layMinisters 13 = .ok (.aload_n 0, 1) := by decide +kernel
theorem dX10_layMinisters_14 : decode cX10_layMinisters 14 = .ok (.getfield 40, 3) := by decide +kernel
theorem dX10_layMinisters_17 : decode cX10_layMinisters 17 = .ok (.iload_n 1, 1) := by decide +kernel
theorem dX10_layMinisters_18 : decode cX10_layMinisters 18 = .ok (.aload_n 0, 1) := by decide +kernel
theorem dX10_layMinisters_19 : decode cX10_layMinisters 19 = .ok (.getfield 9, 3) := by decide +kernel
theorem dX10_layMinisters_22 : decode cX10_layMinisters 22 = .ok (.bipush 58, 2) := by decide +kernel
theorem dX10_layMinisters_24 : decode cX10_layMinisters 24 = .ok (.iconst 2, 1) := by decide +kernel
theorem dX10_layMinisters_25 : decode cX10_layMinisters 25 = .ok (.iload_n 1, 1) := by decide +kernel
theorem dX10_layMinisters_26 : decode cX10_layMinisters 26 = .ok (.imul, 1) := by decide +kernel
theorem dX10_layMinisters_27 : decode cX10_layMinisters 27 = .ok (.iadd, 1) := by decide +kernel
theorem dX10_layMinisters_28 : decode cX10_layMinisters 28 = .ok (.iaload, 1) := by decide +kernel
theorem dX10_layMinisters_29 : decode cX10_layMinisters 29 = .ok (.iastore, 1) := by decide +kernel
theorem dX10_layMinisters_30 : decode cX10_layMinisters 30 = .ok (.iinc 1 1, 3) := by decide +kernel
theorem dX10_layMinisters_33 : decode cX10_layMinisters 33 = .ok (.goto (-31), 3) := by decide +kernel
theorem dX10_layMinisters_36 : decode cX10_layMinisters 36 = .ok (.iconst 0, 1) := by decide +kernel
theorem dX10_layMinisters_37 : decode cX10_layMinisters 37 = .ok (.istore_n 1, 1) := by decide +kernel
theorem dX10_layMinisters_38 : decode cX10_layMinisters 38 = .ok (.iload_n 1, 1) := by decide +kernel
theorem dX10_layMinisters_39 : decode cX10_layMinisters 39 = .ok (.aload_n 0, 1) := by decide +kernel
theorem dX10_layMinisters_40 : decode cX10_layMinisters 40 = .ok (.getfield 9, 3) := by decide +kernel
theorem dX10_layMinisters_43 : decode cX10_layMinisters 43 = .ok (.bipush 8, 2) := by decide +kernel
theorem dX10_layMinisters_45 : decode cX10_layMinisters 45 = .ok (.iaload, 1) := by decide +kernel
theorem dX10_layMinisters_46 : decode cX10_layMinisters 46 = .ok (.if_icmp .ge 39, 3) := by decide +kernel
theorem dX10_layMinisters_49 : decode cX10_layMinisters 49 = .ok (.aload_n 0, 1) := by decide +kernel
theorem dX10_layMinisters_50 : decode cX10_layMinisters 50 = .ok (.getfield 9, 3) := by decide +kernel
theorem dX10_layMinisters_53 : decode cX10_layMinisters 53 = .ok (.bipush 104, 2) := by decide +kernel
theorem dX10_layMinisters_55 : decode cX10_layMinisters 55 = .ok (.iload_n 1, 1) := by decide +kernel
theorem dX10_layMinisters_56 : decode cX10_layMinisters 56 = .ok (.iadd, 1) := by decide +kernel
theorem dX10_layMinisters_57 : decode cX10_layMinisters 57 = .ok (.iaload, 1) := by decide +kernel
theorem dX10_layMinisters_58 : decode cX10_layMinisters 58 = .ok (.ldc 237, 2) := by decide +kernel
theorem dX10_layMinisters_60 : decode cX10_layMinisters 60 = .ok (.isub, 1) := by decide +kernel
theorem dX10_layMinisters_61 : decode cX10_layMinisters 61 = .ok (.istore_n 2, 1) := by decide +kernel
theorem dX10_layMinisters_62 : decode cX10_layMinisters 62 = .ok (.iload_n 2, 1) := by decide +kernel
theorem dX10_layMinisters_63 : decode cX10_layMinisters 63 = .ok (.ifCond .lt 16, 3) := by decide +kernel
theorem dX10_layMinisters_66 : decode cX10_layMinisters 66 = .ok (.aload_n 0, 1) := by decide +kernel
theorem dX10_layMinisters_67 : decode cX10_layMinisters 67 = .ok (.getfield 40, 3) := by decide +kernel
theorem dX10_layMinisters_70 : decode cX10_layMinisters 70 = .ok (.iload_n 2, 1) := by decide +kernel
theorem dX10_layMinisters_71 : decode cX10_layMinisters 71 = .ok (.bipush 10, 2) := by decide +kernel
theorem dX10_layMinisters_73 : decode cX10_layMinisters 73 = .ok (.idiv, 1) := by decide +kernel
theorem dX10_layMinisters_74 : decode cX10_layMinisters 74 = .ok (.iload_n 2, 1) := by decide +kernel
theorem dX10_layMinisters_75 : decode cX10_layMinisters 75 = .ok (.bipush 10, 2) := by decide +kernel
theorem dX10_layMinisters_77 : decode cX10_layMinisters 77 = .ok (.irem, 1) := by decide +kernel
theorem dX10_layMinisters_78 : decode cX10_layMinisters 78 = .ok (.iastore, 1) := by decide +kernel
theorem dX10_layMinisters_79 : decode cX10_layMinisters 79 = .ok (.iinc 1 1, 3) := by decide +kernel
theorem dX10_layMinisters_82 : decode cX10_layMinisters 82 = .ok (.goto (-44), 3) := by decide +kernel
theorem dX10_layMinisters_85 : decode cX10_layMinisters 85 = .ok (.iconst 0, 1) := by decide +kernel
theorem dX10_layMinisters_86 : decode cX10_layMinisters 86 = .ok (.istore_n 1, 1) := by decide +kernel
theorem dX10_layMinisters_87 : decode cX10_layMinisters 87 = .ok (.iload_n 1, 1) := by decide +kernel
theorem dX10_layMinisters_88 : decode cX10_layMinisters 88 = .ok (.bipush 6, 2) := by decide +kernel
theorem dX10_layMinisters_90 : decode cX10_layMinisters 90 = .ok (.if_icmp .ge 16, 3) := by decide +kernel
theorem dX10_layMinisters_93 : decode cX10_layMinisters 93 = .ok (.aload_n 0, 1) := by decide +kernel
theorem dX10_layMinisters_94 : decode cX10_layMinisters 94 = .ok (.getfield 43, 3) := by decide +kernel
theorem dX10_layMinisters_97 : decode cX10_layMinisters 97 = .ok (.iload_n 1, 1) := by decide +kernel
theorem dX10_layMinisters_98 : decode cX10_layMinisters 98 = .ok (.iconst 0, 1) := by decide +kernel
theorem dX10_layMinisters_99 : decode cX10_layMinisters 99 = .ok (.iastore, 1) := by decide +kernel
theorem dX10_layMinisters_100 : decode cX10_layMinisters 100 = .ok (.iinc 1 1, 3) := by decide +kernel
theorem dX10_layMinisters_103 : decode cX10_layMinisters 103 = .ok (.goto (-16), 3) := by decide +kernel
theorem dX10_layMinisters_106 : decode cX10_layMinisters 106 = .ok (.iconst 0, 1) := by decide +kernel
theorem dX10_layMinisters_107 : decode cX10_layMinisters 107 = .ok (.istore_n 1, 1) := by decide +kernel
theorem dX10_layMinisters_108 : decode cX10_layMinisters 108 = .ok (.iload_n 1, 1) := by decide +kernel
theorem dX10_layMinisters_109 : decode cX10_layMinisters 109 = .ok (.aload_n 0, 1) := by decide +kernel
theorem dX10_layMinisters_110 : decode cX10_layMinisters 110 = .ok (.getfield 9, 3) := by decide +kernel
theorem dX10_layMinisters_113 : decode cX10_layMinisters 113 = .ok (.bipush 6, 2) := by decide +kernel
theorem dX10_layMinisters_115 : decode cX10_layMinisters 115 = .ok (.iaload, 1) := by decide +kernel
theorem dX10_layMinisters_116 : decode cX10_layMinisters 116 = .ok (.if_icmp .ge 36, 3) := by decide +kernel
theorem dX10_layMinisters_119 : decode cX10_layMinisters 119 = .ok (.aload_n 0, 1) := by decide +kernel
theorem dX10_layMinisters_120 : decode cX10_layMinisters 120 = .ok (.getfield 43, 3) := by decide +kernel
theorem dX10_layMinisters_123 : decode cX10_layMinisters 123 = .ok (.aload_n 0, 1) := by decide +kernel
theorem dX10_layMinisters_124 : decode cX10_layMinisters 124 = .ok (.getfield 40, 3) := by decide +kernel
theorem dX10_layMinisters_127 : decode cX10_layMinisters 127 = .ok (.iload_n 1, 1) := by decide +kernel
theorem dX10_layMinisters_128 : decode cX10_layMinisters 128 = .ok (.iaload, 1) := by decide +kernel
theorem dX10_layMinisters_129 : decode cX10_layMinisters 129 = .ok (.dup2, 1) := by decide +kernel
theorem dX10_layMinisters_130 : decode cX10_layMinisters 130 = .ok (.iaload, 1) := by decide +kernel
theorem dX10_layMinisters_131 : decode cX10_layMinisters 131 = .ok (.aload_n 0, 1) := by decide +kernel
theorem dX10_layMinisters_132 : decode cX10_layMinisters 132 = .ok (.getfield 9, 3) := by decide +kernel
theorem dX10_layMinisters_135 : decode cX10_layMinisters 135 = .ok (.bipush 58, 2) := by decide +kernel
theorem dX10_layMinisters_137 : decode cX10_layMinisters 137 = .ok (.iconst 2, 1) := by decide +kernel
theorem dX10_layMinisters_138 : decode cX10_layMinisters 138 = .ok (.iload_n 1, 1) := by decide +kernel
theorem dX10_layMinisters_139 : decode cX10_layMinisters 139 = .ok (.imul, 1) := by decide +kernel
theorem dX10_layMinisters_140 : decode cX10_layMinisters 140 = .ok (.iadd, 1) := by decide +kernel
theorem dX10_layMinisters_141 : decode cX10_layMinisters 141 = .ok (.iconst 1, 1) := by decide +kernel
theorem dX10_layMinisters_142 : decode cX10_layMinisters 142 = .ok (.iadd, 1) := by decide +kernel
theorem dX10_layMinisters_143 : decode cX10_layMinisters 143 = .ok (.iaload, 1) := by decide +kernel
theorem dX10_layMinisters_144 : decode cX10_layMinisters 144 = .ok (.iadd, 1) := by decide +kernel
theorem dX10_layMinisters_145 : decode cX10_layMinisters 145 = .ok (.iastore, 1) := by decide +kernel
theorem dX10_layMinisters_146 : decode cX10_layMinisters 146 = .ok (.iinc 1 1, 3) := by decide +kernel
theorem dX10_layMinisters_149 : decode cX10_layMinisters 149 = .ok (.goto (-41), 3) := by decide +kernel
theorem dX10_layMinisters_152 : decode cX10_layMinisters 152 = .ok (.return_, 1) := by decide +kernel
theorem dX10_asItIs_0 : decode cX10_asItIs 0 = .ok (.aload_n 0, 1) := by decide +kernel
theorem dX10_asItIs_1 : decode cX10_asItIs 1 = .ok (.iconst (-1), 1) := by decide +kernel
theorem dX10_asItIs_2 : decode cX10_asItIs 2 = .ok (.putfield 227, 3) := by decide +kernel
theorem dX10_asItIs_5 : decode cX10_asItIs 5 = .ok (.aload_n 0, 1) := by decide +kernel
theorem dX10_asItIs_6 : decode cX10_asItIs 6 = .ok (.iconst 0, 1) := by decide +kernel
theorem dX10_asItIs_7 : decode cX10_asItIs 7 = .ok (.putfield 230, 3) := by decide +kernel
theorem dX10_asItIs_10 : decode cX10_asItIs 10 = .ok (.aload_n 0, 1) := by decide +kernel
theorem dX10_asItIs_11 : decode cX10_asItIs 11 = .ok (.iconst 0, 1) := by decide +kernel
theorem dX10_asItIs_12 : decode cX10_asItIs 12 = .ok (.putfield 264, 3) := by decide +kernel
theorem dX10_asItIs_15 : decode cX10_asItIs 15 = .ok (.aload_n 0, 1) := by decide +kernel
theorem dX10_asItIs_16 : decode cX10_asItIs 16 = .ok (.iconst 0, 1) := by decide +kernel
theorem dX10_asItIs_17 : decode cX10_asItIs 17 = .ok (.putfield 249, 3) := by decide +kernel
theorem dX10_asItIs_20 : decode cX10_asItIs 20 = .ok (.aload_n 0, 1) := by decide +kernel
theorem dX10_asItIs_21 : decode cX10_asItIs 21 = .ok (.aload_n 0, 1) := by decide +kernel
theorem dX10_asItIs_22 : decode cX10_asItIs 22 = .ok (.getfield 9, 3) := by decide +kernel
theorem dX10_asItIs_25 : decode cX10_asItIs 25 = .ok (.iconst 2, 1) := by decide +kernel
theorem dX10_asItIs_26 : decode cX10_asItIs 26 = .ok (.iaload, 1) := by decide +kernel
theorem dX10_asItIs_27 : decode cX10_asItIs 27 = .ok (.putfield 267, 3) := by decide +kernel
theorem dX10_asItIs_30 : decode cX10_asItIs 30 = .ok (.aload_n 0, 1) := by decide +kernel
theorem dX10_asItIs_31 : decode cX10_asItIs 31 = .ok (.iconst 0, 1) := by decide +kernel
theorem dX10_asItIs_32 : decode cX10_asItIs 32 = .ok (.putfield 270, 3) := by decide +kernel
theorem dX10_asItIs_35 : decode cX10_asItIs 35 = .ok (.aload_n 0, 1) := by decide +kernel
theorem dX10_asItIs_36 : decode cX10_asItIs 36 = .ok (.invokevirtual 273, 3) := by decide +kernel
theorem dX10_asItIs_39 : decode cX10_asItIs 39 = .ok (.aload_n 0, 1) := by decide +kernel
theorem dX10_asItIs_40 : decode cX10_asItIs 40 = .ok (.invokevirtual 276, 3) := by decide +kernel
theorem dX10_asItIs_43 : decode cX10_asItIs 43 = .ok (.return_, 1) := by decide +kernel
theorem dX10_asksBall_0 : decode cX10_asksBall 0 = .ok (.aload_n 0, 1) := by decide +kernel
theorem dX10_asksBall_1 : decode cX10_asksBall 1 = .ok (.invokevirtual 279, 3) := by decide +kernel
theorem dX10_asksBall_4 : decode cX10_asksBall 4 = .ok (.aload_n 0, 1) := by decide +kernel
theorem dX10_asksBall_5 : decode cX10_asksBall 5 = .ok (.invokevirtual 86, 3) := by decide +kernel
theorem dX10_asksBall_8 : decode cX10_asksBall 8 = .ok (.ireturn, 1) := by decide +kernel
theorem dX10_asksLady_0 : decode cX10_asksLady 0 = .ok (.aload_n 0, 1) := by decide +kernel
theorem dX10_asksLady_1 : decode cX10_asksLady 1 = .ok (.invokevirtual 279, 3) := by decide +kernel
theorem dX10_asksLady_4 : decode cX10_asksLady 4 = .ok (.aload_n 0, 1) := by decide +kernel
theorem dX10_asksLady_5 : decode cX10_asksLady 5 = .ok (.iload_n 1, 1) := by decide +kernel
theorem dX10_asksLady_6 : decode cX10_asksLady 6 = .ok (.i2l, 1) := by decide +kernel
theorem dX10_asksLady_7 : decode cX10_asksLady 7 = .ok (.invokevirtual 222, 3) := by decide +kernel
theorem dX10_asksLady_10 : decode cX10_asksLady 10 = .ok (.ireturn, 1) := by decide +kernel
theorem dX10_asksDance_0 : decode cX10_asksDance 0 = .ok (.aload_n 0, 1) := by decide +kernel
theorem dX10_asksDance_1 : decode cX10_asksDance 1 = .ok (.invokevirtual 279, 3) := by decide +kernel
theorem dX10_asksDance_4 : decode cX10_asksDance 4 = .ok (.aload_n 0, 1) := by decide +kernel
theorem dX10_asksDance_5 : decode cX10_asksDance 5 = .ok (.iload_n 1, 1) := by decide +kernel
theorem dX10_asksDance_6 : decode cX10_asksDance 6 = .ok (.i2l, 1) := by decide +kernel
theorem dX10_asksDance_7 : decode cX10_asksDance 7 = .ok (.invokevirtual 282, 3) := by decide +kernel
theorem dX10_asksDance_10 : decode cX10_asksDance 10 = .ok (.ireturn, 1) := by decide +kernel
theorem dX10_doMeet_0 : decode cX10_doMeet 0 = .ok (.aload_n 0, 1) := by decide +kernel
theorem dX10_doMeet_1 : decode cX10_doMeet 1 = .ok (.iload_n 1, 1) := by decide +kernel
theorem dX10_doMeet_2 : decode cX10_doMeet 2 = .ok (.iload_n 3, 1) := by decide +kernel
theorem dX10_doMeet_3 : decode cX10_doMeet 3 = .ok (.invokevirtual 255, 3) := by decide +kernel
theorem dX10_doMeet_6 : decode cX10_doMeet 6 = .ok (.aload_n 0, 1) := by decide +kernel
theorem dX10_doMeet_7 : decode cX10_doMeet 7 = .ok (.iload_n 2, 1) := by decide +kernel
theorem dX10_doMeet_8 : decode cX10_doMeet 8 = .ok (.iload_n 3, 1) := by decide +kernel
theorem dX10_doMeet_9 : decode cX10_doMeet 9 = .ok (.invokevirtual 255, 3) := by decide +kernel
theorem dX10_doMeet_12 : decode cX10_doMeet 12 = .ok (.if_icmp .ne 7, 3) := by decide +kernel
theorem dX10_doMeet_15 : decode cX10_doMeet 15 = .ok (.iconst 1, 1) := by decide +kernel
theorem dX10_doMeet_16 : decode cX10_doMeet 16 = .ok (.goto 4, 3) := by decide +kernel
theorem dX10_doMeet_19 : decode cX10_doMeet 19 = .ok (.iconst 0, 1) := by decide +kernel
theorem dX10_doMeet_20 : decode cX10_doMeet 20 = .ok (.ireturn, 1) := by decide +kernel
theorem dX10_minister_0 : decode cX10_minister 0 = .ok (.aload_n 0, 1) := by decide +kernel
theorem dX10_minister_1 : decode cX10_minister 1 = .ok (.invokevirtual 279, 3) := by decide +kernel
theorem dX10_minister_4 : decode cX10_minister 4 = .ok (.aload_n 0, 1) := by decide +kernel
theorem dX10_minister_5 : decode cX10_minister 5 = .ok (.iload_n 1, 1) := by decide +kernel
theorem dX10_minister_6 : decode cX10_minister 6 = .ok (.invokevirtual 285, 3) := by decide +kernel
theorem dX10_minister_9 : decode cX10_minister 9 = .ok (.ifCond .eq 13, 3) := by decide +kernel
theorem dX10_minister_12 : decode cX10_minister 12 = .ok (.iload_n 2, 1) := by decide +kernel
theorem dX10_minister_13 : decode cX10_minister 13 = .ok (.i2l, 1) := by decide +kernel
theorem dX10_minister_14 : decode cX10_minister 14 = .ok (.lconst 0, 1) := by decide +kernel
theorem dX10_minister_15 : decode cX10_minister 15 = .ok (.lconst 1, 1) := by decide +kernel
theorem dX10_minister_16 : decode cX10_minister 16 = .ok (.invokestatic 82, 3) := by decide +kernel
theorem dX10_minister_19 : decode cX10_minister 19 = .ok (.ifCond .ne 6, 3) := by decide +kernel
theorem dX10_minister_22 : decode cX10_minister 22 = .ok (.bipush (-2), 2) := by decide +kernel
theorem dX10_minister_24 : decode cX10_minister 24 = .ok (.ireturn, 1) := by decide +kernel
theorem dX10_minister_25 : decode cX10_minister 25 = .ok (.iload_n 2, 1) := by decide +kernel
theorem dX10_minister_26 : decode cX10_minister 26 = .ok (.ifCond .ne 12, 3) := by decide +kernel
theorem dX10_minister_29 : decode cX10_minister 29 = .ok (.aload_n 0, 1) := by decide +kernel
theorem dX10_minister_30 : decode cX10_minister 30 = .ok (.getfield 40, 3) := by decide +kernel
theorem dX10_minister_33 : decode cX10_minister 33 = .ok (.iload_n 1, 1) := by decide +kernel
theorem dX10_minister_34 : decode cX10_minister 34 = .ok (.iaload, 1) := by decide +kernel
theorem dX10_minister_35 : decode cX10_minister 35 = .ok (.goto 16, 3) := by decide +kernel
theorem dX10_minister_38 : decode cX10_minister 38 = .ok (.aload_n 0, 1) := by decide +kernel
theorem dX10_minister_39 : decode cX10_minister 39 = .ok (.getfield 9, 3) := by decide +kernel
theorem dX10_minister_42 : decode cX10_minister 42 = .ok (.bipush 58, 2) := by decide +kernel
theorem dX10_minister_44 : decode cX10_minister 44 = .ok (.iconst 2, 1) := by decide +kernel
theorem dX10_minister_45 : decode cX10_minister 45 = .ok (.iload_n 1, 1) := by decide +kernel
theorem dX10_minister_46 : decode cX10_minister 46 = .ok (.imul, 1) := by decide +kernel
theorem dX10_minister_47 : decode cX10_minister 47 = .ok (.iadd, 1) := by decide +kernel
theorem dX10_minister_48 : decode cX10_minister 48 = .ok (.iconst 1, 1) := by decide +kernel
theorem dX10_minister_49 : decode cX10_minister 49 = .ok (.iadd, 1) := by decide +kernel
theorem dX10_minister_50 : decode cX10_minister 50 = .ok (.iaload, 1) := by decide +kernel
theorem dX10_minister_51 : decode cX10_minister 51 = .ok (.ireturn, 1) := by decide +kernel
theorem dX10_way_0 : decode cX10_way 0 = .ok (.aload_n 0, 1) := by decide +kernel
theorem dX10_way_1 : decode cX10_way 1 = .ok (.iload_n 1, 1) := by decide +kernel
theorem dX10_way_2 : decode cX10_way 2 = .ok (.invokevirtual 288, 3) := by decide +kernel
theorem dX10_way_5 : decode cX10_way 5 = .ok (.ifCond .eq 19, 3) := by decide +kernel
theorem dX10_way_8 : decode cX10_way 8 = .ok (.aload_n 0, 1) := by decide +kernel
theorem dX10_way_9 : decode cX10_way 9 = .ok (.iload_n 2, 1) := by decide +kernel
theorem dX10_way_10 : decode cX10_way 10 = .ok (.invokevirtual 291, 3) := by decide +kernel
theorem dX10_way_13 : decode cX10_way 13 = .ok (.ifCond .eq 11, 3) := by decide +kernel
theorem dX10_way_16 : decode cX10_way 16 = .ok (.aload_n 0, 1) := by decide +kernel
theorem dX10_way_17 : decode cX10_way 17 = .ok (.iload_n 3, 1) := by decide +kernel
theorem dX10_way_18 : decode cX10_way 18 = .ok (.invokevirtual 291, 3) := by decide +kernel
theorem dX10_way_21 : decode cX10_way 21 = .ok (.ifCond .ne 6, 3) := by decide +kernel
theorem dX10_way_24 : decode cX10_way 24 = .ok (.bipush (-2), 2) := by decide +kernel
theorem dX10_way_26 : decode cX10_way 26 = .ok (.ireturn, 1) := by decide +kernel
theorem dX10_way_27 : decode cX10_way 27 = .ok (.aload_n 0, 1) := by decide +kernel
theorem dX10_way_28 : decode cX10_way 28 = .ok (.aload_n 0, 1) := by decide +kernel
theorem dX10_way_29 : decode cX10_way 29 = .ok (.iload_n 1, 1) := by decide +kernel
theorem dX10_way_30 : decode cX10_way 30 = .ok (.invokevirtual 238, 3) := by decide +kernel
theorem dX10_way_33 : decode cX10_way 33 = .ok (.iload_n 2, 1) := by decide +kernel
theorem dX10_way_34 : decode cX10_way 34 = .ok (.iload_n 3, 1) := by decide +kernel
theorem dX10_way_35 : decode cX10_way 35 = .ok (.invokevirtual 233, 3) := by decide +kernel
theorem dX10_way_38 : decode cX10_way 38 = .ok (.istore 4, 2) := by decide +kernel
theorem dX10_way_40 : decode cX10_way 40 = .ok (.iload 4, 2) := by decide +kernel
theorem dX10_way_42 : decode cX10_way 42 = .ok (.ldc 226, 2) := by decide +kernel
theorem dX10_way_44 : decode cX10_way 44 = .ok (.if_icmp .lt 7, 3) := by decide +kernel
theorem dX10_way_47 : decode cX10_way 47 = .ok (.iconst (-1), 1) := by decide +kernel
theorem dX10_way_48 : decode cX10_way 48 = .ok (.goto 5, 3) := by decide +kernel
theorem dX10_way_51 : decode cX10_way 51 = .ok (.iload 4, 2) := by decide +kernel
theorem dX10_way_53 : decode cX10_way 53 = .ok (.ireturn, 1) := by decide +kernel
theorem dX10_reach_0 : decode cX10_reach 0 = .ok (.aload_n 0, 1) := by decide +kernel
theorem dX10_reach_1 : decode cX10_reach 1 = .ok (.iload_n 1, 1) := by decide +kernel
theorem dX10_reach_2 : decode cX10_reach 2 = .ok (.invokevirtual 288, 3) := by decide +kernel
theorem dX10_reach_5 : decode cX10_reach 5 = .ok (.ifCond .eq 11, 3) := by decide +kernel
theorem dX10_reach_8 : decode cX10_reach 8 = .ok (.aload_n 0, 1) := by decide +kernel
theorem dX10_reach_9 : decode cX10_reach 9 = .ok (.iload_n 2, 1) := by decide +kernel
theorem dX10_reach_10 : decode cX10_reach 10 = .ok (.invokevirtual 291, 3) := by decide +kernel
theorem dX10_reach_13 : decode cX10_reach 13 = .ok (.ifCond .ne 6, 3) := by decide +kernel
theorem dX10_reach_16 : decode cX10_reach 16 = .ok (.bipush (-2), 2) := by decide +kernel
theorem dX10_reach_18 : decode cX10_reach 18 = .ok (.ireturn, 1) := by decide +kernel
theorem dX10_reach_19 : decode cX10_reach 19 = .ok (.iconst 0, 1) := by decide +kernel
theorem dX10_reach_20 : decode cX10_reach 20 = .ok (.istore_n 3, 1) := by decide +kernel
theorem dX10_reach_21 : decode cX10_reach 21 = .ok (.iconst 0, 1) := by decide +kernel
theorem dX10_reach_22 : decode cX10_reach 22 = .ok (.istore 4, 2) := by decide +kernel
theorem dX10_reach_24 : decode cX10_reach 24 = .ok (.iload 4, 2) := by decide +kernel
theorem dX10_reach_26 : decode cX10_reach 26 = .ok (.aload_n 0, 1) := by decide +kernel
theorem dX10_reach_27 : decode cX10_reach 27 = .ok (.getfield 9, 3) := by decide +kernel
theorem dX10_reach_30 : decode cX10_reach 30 = .ok (.iconst 0, 1) := by decide +kernel
theorem dX10_reach_31 : decode cX10_reach 31 = .ok (.iaload, 1) := by decide +kernel
theorem dX10_reach_32 : decode cX10_reach 32 = .ok (.if_icmp .ge 37, 3) := by decide +kernel
theorem dX10_reach_35 : decode cX10_reach 35 = .ok (.iload_n 3, 1) := by decide +kernel
theorem dX10_reach_36 : decode cX10_reach 36 = .ok (.aload_n 0, 1) := by decide +kernel
theorem dX10_reach_37 : decode cX10_reach 37 = .ok (.aload_n 0, 1) := by decide +kernel
theorem dX10_reach_38 : decode cX10_reach 38 = .ok (.iload_n 1, 1) := by decide +kernel
theorem dX10_reach_39 : decode cX10_reach 39 = .ok (.invokevirtual 238, 3) := by decide +kernel
theorem dX10_reach_42 : decode cX10_reach 42 = .ok (.iload_n 2, 1) := by decide +kernel
theorem dX10_reach_43 : decode cX10_reach 43 = .ok (.iload 4, 2) := by decide +kernel
theorem dX10_reach_45 : decode cX10_reach 45 = .ok (.invokevirtual 233, 3) := by decide +kernel
theorem dX10_reach_48 : decode cX10_reach 48 = .ok (.ldc 226, 2) := by decide +kernel
theorem dX10_reach_50 : decode cX10_reach 50 = .ok (.if_icmp .ge 10, 3) := by decide +kernel
theorem dX10_reach_53 : decode cX10_reach 53 = .ok (.iconst 1, 1) := by decide +kernel
theorem dX10_reach_54 : decode cX10_reach 54 = .ok (.iload 4, 2) := by decide +kernel
theorem dX10_reach_56 : decode cX10_reach 56 = .ok (.ishl, 1) := by decide +kernel
theorem dX10_reach_57 : decode cX10_reach 57 = .ok (.goto 4, 3) := by decide +kernel
theorem dX10_reach_60 : decode cX10_reach 60 = .ok (.iconst 0, 1) := by decide +kernel
theorem dX10_reach_61 : decode cX10_reach 61 = .ok (.ior, 1) := by decide +kernel
theorem dX10_reach_62 : decode cX10_reach 62 = .ok (.istore_n 3, 1) := by decide +kernel
theorem dX10_reach_63 : decode cX10_reach 63 = .ok (.iinc 4 1, 3) := by decide +kernel
theorem dX10_reach_66 : decode cX10_reach 66 = .ok (.goto (-42), 3) := by decide +kernel
theorem dX10_reach_69 : decode cX10_reach 69 = .ok (.iload_n 3, 1) := by decide +kernel
theorem dX10_reach_70 : decode cX10_reach 70 = .ok (.ireturn, 1) := by decide +kernel
theorem dX10_bidden_0 : decode cX10_bidden 0 = .ok (.aload_n 0, 1) := by decide +kernel
theorem dX10_bidden_1 : decode cX10_bidden 1 = .ok (.iload_n 1, 1) := by decide +kernel
theorem dX10_bidden_2 : decode cX10_bidden 2 = .ok (.i2l, 1) := by decide +kernel
theorem dX10_bidden_3 : decode cX10_bidden 3 = .ok (.invokevirtual 222, 3) := by decide +kernel
theorem dX10_bidden_6 : decode cX10_bidden 6 = .ok (.ifCond .eq 21, 3) := by decide +kernel
theorem dX10_bidden_9 : decode cX10_bidden 9 = .ok (.aload_n 0, 1) := by decide +kernel
theorem dX10_bidden_10 : decode cX10_bidden 10 = .ok (.iload_n 2, 1) := by decide +kernel
theorem dX10_bidden_11 : decode cX10_bidden 11 = .ok (.i2l, 1) := by decide +kernel
theorem dX10_bidden_12 : decode cX10_bidden 12 = .ok (.invokevirtual 282, 3) := by decide +kernel
theorem dX10_bidden_15 : decode cX10_bidden 15 = .ok (.ifCond .eq 12, 3) := by decide +kernel
theorem dX10_bidden_18 : decode cX10_bidden 18 = .ok (.aload_n 0, 1) := by decide +kernel
theorem dX10_bidden_19 : decode cX10_bidden 19 = .ok (.iload_n 1, 1) := by decide +kernel
theorem dX10_bidden_20 : decode cX10_bidden 20 = .ok (.iload_n 2, 1) := by decide +kernel
theorem dX10_bidden_21 : decode cX10_bidden 21 = .ok (.invokevirtual 258, 3) := by decide +kernel
theorem dX10_bidden_24 : decode cX10_bidden 24 = .ok (.goto 5, 3) := by decide +kernel
theorem dX10_bidden_27 : decode cX10_bidden 27 = .ok (.bipush (-2), 2) := by decide +kernel
theorem dX10_bidden_29 : decode cX10_bidden 29 = .ok (.ireturn, 1) := by decide +kernel
theorem dX10_at_0 : decode cX10_at 0 = .ok (.aload_n 0, 1) := by decide +kernel
theorem dX10_at_1 : decode cX10_at 1 = .ok (.iload_n 2, 1) := by decide +kernel
theorem dX10_at_2 : decode cX10_at 2 = .ok (.invokevirtual 294, 3) := by decide +kernel
theorem dX10_at_5 : decode cX10_at 5 = .ok (.ifCond .eq 21, 3) := by decide +kernel
theorem dX10_at_8 : decode cX10_at 8 = .ok (.aload_n 0, 1) := by decide +kernel
theorem dX10_at_9 : decode cX10_at 9 = .ok (.iload_n 1, 1) := by decide +kernel
theorem dX10_at_10 : decode cX10_at 10 = .ok (.i2l, 1) := by decide +kernel
theorem dX10_at_11 : decode cX10_at 11 = .ok (.invokevirtual 222, 3) := by decide +kernel
theorem dX10_at_14 : decode cX10_at 14 = .ok (.ifCond .eq 12, 3) := by decide +kernel
theorem dX10_at_17 : decode cX10_at 17 = .ok (.aload_n 0, 1) := by decide +kernel
theorem dX10_at_18 : decode cX10_at 18 = .ok (.iload_n 1, 1) := by decide +kernel
theorem dX10_at_19 : decode cX10_at 19 = .ok (.iload_n 2, 1) := by decide +kernel
theorem dX10_at_20 : decode cX10_at 20 = .ok (.invokevirtual 255, 3) := by decide +kernel
theorem dX10_at_23 : decode cX10_at 23 = .ok (.goto 5, 3) := by decide +kernel
theorem dX10_at_26 : decode cX10_at 26 = .ok (.bipush (-2), 2) := by decide +kernel
theorem dX10_at_28 : decode cX10_at 28 = .ok (.ireturn, 1) := by decide +kernel
theorem dX10_withinOf_0 : decode cX10_withinOf 0 = .ok (.iconst 0, 1) := by decide +kernel
theorem dX10_withinOf_1 : decode cX10_withinOf 1 = .ok (.istore_n 3, 1) := by decide +kernel
theorem dX10_withinOf_2 : decode cX10_withinOf 2 = .ok (.iconst 0, 1) := by decide +kernel
theorem dX10_withinOf_3 : decode cX10_withinOf 3 = .ok (.istore 4, 2) := by decide +kernel
theorem dX10_withinOf_5 : decode cX10_withinOf 5 = .ok (.iload 4, 2) := by decide +kernel
theorem dX10_withinOf_7 : decode cX10_withinOf 7 = .ok (.aload_n 0, 1) := by decide +kernel
theorem dX10_withinOf_8 : decode cX10_withinOf 8 = .ok (.invokevirtual 244, 3) := by decide +kernel
theorem dX10_withinOf_11 : decode cX10_withinOf 11 = .ok (.if_icmp .ge 31, 3) := by decide +kernel
theorem dX10_withinOf_14 : decode cX10_withinOf 14 = .ok (.iload_n 3, 1) := by decide +kernel
theorem dX10_withinOf_15 : decode cX10_withinOf 15 = .ok (.aload_n 0, 1) := by decide +kernel
theorem dX10_withinOf_16 : decode cX10_withinOf 16 = .ok (.iload 4, 2) := by decide +kernel
theorem dX10_withinOf_18 : decode cX10_withinOf 18 = .ok (.iload_n 2, 1) := by decide +kernel
theorem dX10_withinOf_19 : decode cX10_withinOf 19 = .ok (.invokevirtual 255, 3) := by decide +kernel
theorem dX10_withinOf_22 : decode cX10_withinOf 22 = .ok (.iload_n 1, 1) := by decide +kernel
theorem dX10_withinOf_23 : decode cX10_withinOf 23 = .ok (.if_icmp .ne 10, 3) := by decide +kernel
theorem dX10_withinOf_26 : decode cX10_withinOf 26 = .ok (.iconst 1, 1) := by decide +kernel
theorem dX10_withinOf_27 : decode cX10_withinOf 27 = .ok (.iload 4, 2) := by decide +kernel
theorem dX10_withinOf_29 : decode cX10_withinOf 29 = .ok (.ishl, 1) := by decide +kernel
theorem dX10_withinOf_30 : decode cX10_withinOf 30 = .ok (.goto 4, 3) := by decide +kernel
theorem dX10_withinOf_33 : decode cX10_withinOf 33 = .ok (.iconst 0, 1) := by decide +kernel
theorem dX10_withinOf_34 : decode cX10_withinOf 34 = .ok (.ior, 1) := by decide +kernel
theorem dX10_withinOf_35 : decode cX10_withinOf 35 = .ok (.istore_n 3, 1) := by decide +kernel
theorem dX10_withinOf_36 : decode cX10_withinOf 36 = .ok (.iinc 4 1, 3) := by decide +kernel
theorem dX10_withinOf_39 : decode cX10_withinOf 39 = .ok (.goto (-34), 3) := by decide +kernel
theorem dX10_withinOf_42 : decode cX10_withinOf 42 = .ok (.iload_n 3, 1) := by decide +kernel
theorem dX10_withinOf_43 : decode cX10_withinOf 43 = .ok (.ireturn, 1) := by decide +kernel
theorem dX10_within_0 : decode cX10_within 0 = .ok (.aload_n 0, 1) := by decide +kernel
theorem dX10_within_1 : decode cX10_within 1 = .ok (.iload_n 2, 1) := by decide +kernel
theorem dX10_within_2 : decode cX10_within 2 = .ok (.invokevirtual 294, 3) := by decide +kernel
theorem dX10_within_5 : decode cX10_within 5 = .ok (.ifCond .eq 20, 3) := by decide +kernel
theorem dX10_within_8 : decode cX10_within 8 = .ok (.aload_n 0, 1) := by decide +kernel
theorem dX10_within_9 : decode cX10_within 9 = .ok (.iload_n 1, 1) := by decide +kernel
theorem dX10_within_10 : decode cX10_within 10 = .ok (.invokevirtual 291, 3) := by decide +kernel
theorem dX10_within_13 : decode cX10_within 13 = .ok (.ifCond .eq 12, 3) := by decide +kernel
theorem dX10_within_16 : decode cX10_within 16 = .ok (.aload_n 0, 1) := by decide +kernel
theorem dX10_within_17 : decode cX10_within 17 = .ok (.iload_n 1, 1) := by decide +kernel
theorem dX10_within_18 : decode cX10_within 18 = .ok (.iload_n 2, 1) := by decide +kernel
theorem dX10_within_19 : decode cX10_within 19 = .ok (.invokevirtual 297, 3) := by decide +kernel
theorem dX10_within_22 : decode cX10_within 22 = .ok (.goto 5, 3) := by decide +kernel
theorem dX10_within_25 : decode cX10_within 25 = .ok (.bipush (-2), 2) := by decide +kernel
theorem dX10_within_27 : decode cX10_within 27 = .ok (.ireturn, 1) := by decide +kernel
theorem dX10_stepsOf_0 : decode cX10_stepsOf 0 = .ok (.iconst 0, 1) := by decide +kernel
theorem dX10_stepsOf_1 : decode cX10_stepsOf 1 = .ok (.istore_n 2, 1) := by decide +kernel
theorem dX10_stepsOf_2 : decode cX10_stepsOf 2 = .ok (.iconst 0, 1) := by decide +kernel
theorem dX10_stepsOf_3 : decode cX10_stepsOf 3 = .ok (.istore_n 3, 1) := by decide +kernel
theorem dX10_stepsOf_4 : decode cX10_stepsOf 4 = .ok (.iload_n 3, 1) := by decide +kernel
theorem dX10_stepsOf_5 : decode cX10_stepsOf 5 = .ok (.aload_n 0, 1) := by decide +kernel
theorem dX10_stepsOf_6 : decode cX10_stepsOf 6 = .ok (.invokevirtual 247, 3) := by decide +kernel
theorem dX10_stepsOf_9 : decode cX10_stepsOf 9 = .ok (.if_icmp .ge 34, 3) := by decide +kernel
theorem dX10_stepsOf_12 : decode cX10_stepsOf 12 = .ok (.iload_n 2, 1) := by decide +kernel
theorem dX10_stepsOf_13 : decode cX10_stepsOf 13 = .ok (.aload_n 0, 1) := by decide +kernel
theorem dX10_stepsOf_14 : decode cX10_stepsOf 14 = .ok (.iload_n 1, 1) := by decide +kernel
theorem dX10_stepsOf_15 : decode cX10_stepsOf 15 = .ok (.iload_n 3, 1) := by decide +kernel
theorem dX10_stepsOf_16 : decode cX10_stepsOf 16 = .ok (.invokevirtual 255, 3) := by decide +kernel
theorem dX10_stepsOf_19 : decode cX10_stepsOf 19 = .ok (.aload_n 0, 1) := by decide +kernel
theorem dX10_stepsOf_20 : decode cX10_stepsOf 20 = .ok (.iload_n 1, 1) := by decide +kernel
theorem dX10_stepsOf_21 : decode cX10_stepsOf 21 = .ok (.iload_n 3, 1) := by decide +kernel
theorem dX10_stepsOf_22 : decode cX10_stepsOf 22 = .ok (.iconst 1, 1) := by decide +kernel
theorem dX10_stepsOf_23 : decode cX10_stepsOf 23 = .ok (.iadd, 1) := by decide +kernel
theorem dX10_stepsOf_24 : decode cX10_stepsOf 24 = .ok (.invokevirtual 255, 3) := by decide +kernel
theorem dX10_stepsOf_27 : decode cX10_stepsOf 27 = .ok (.if_icmp .ne 7, 3) := by decide +kernel
theorem dX10_stepsOf_30 : decode cX10_stepsOf 30 = .ok (.iconst 0, 1) := by decide +kernel
theorem dX10_stepsOf_31 : decode cX10_stepsOf 31 = .ok (.goto 4, 3) := by decide +kernel
theorem dX10_stepsOf_34 : decode cX10_stepsOf 34 = .ok (.iconst 1, 1) := by decide +kernel
theorem dX10_stepsOf_35 : decode cX10_stepsOf 35 = .ok (.iadd, 1) := by decide +kernel
theorem dX10_stepsOf_36 : decode cX10_stepsOf 36 = .ok (.istore_n 2, 1) := by decide +kernel
theorem dX10_stepsOf_37 : decode cX10_stepsOf 37 = .ok (.iinc 3 1, 3) := by decide +kernel
theorem dX10_stepsOf_40 : decode cX10_stepsOf 40 = .ok (.goto (-36), 3) := by decide +kernel
theorem dX10_stepsOf_43 : decode cX10_stepsOf 43 = .ok (.iload_n 2, 1) := by decide +kernel
theorem dX10_stepsOf_44 : decode cX10_stepsOf 44 = .ok (.ireturn, 1) := by decide +kernel
theorem dX10_steps_0 : decode cX10_steps 0 = .ok (.aload_n 0, 1) := by decide +kernel
theorem dX10_steps_1 : decode cX10_steps 1 = .ok (.iload_n 1, 1) := by decide +kernel
theorem dX10_steps_2 : decode cX10_steps 2 = .ok (.invokevirtual 288, 3) := by decide +kernel
theorem dX10_steps_5 : decode cX10_steps 5 = .ok (.ifCond .eq 11, 3) := by decide +kernel
theorem dX10_steps_8 : decode cX10_steps 8 = .ok (.aload_n 0, 1) := by decide +kernel
theorem dX10_steps_9 : decode cX10_steps 9 = .ok (.iload_n 1, 1) := by decide +kernel
theorem dX10_steps_10 : decode cX10_steps 10 = .ok (.invokevirtual 300, 3) := by decide +kernel
theorem dX10_steps_13 : decode cX10_steps 13 = .ok (.goto 5, 3) := by decide +kernel
theorem dX10_steps_16 : decode cX10_steps 16 = .ok (.bipush (-2), 2) := by decide +kernel
theorem dX10_steps_18 : decode cX10_steps 18 = .ok (.ireturn, 1) := by decide +kernel
theorem dX10_sees_0 : decode cX10_sees 0 = .ok (.aload_n 0, 1) := by decide +kernel
theorem dX10_sees_1 : decode cX10_sees 1 = .ok (.iload_n 1, 1) := by decide +kernel
theorem dX10_sees_2 : decode cX10_sees 2 = .ok (.invokevirtual 288, 3) := by decide +kernel
theorem dX10_sees_5 : decode cX10_sees 5 = .ok (.ifCond .ne 6, 3) := by decide +kernel
theorem dX10_sees_8 : decode cX10_sees 8 = .ok (.bipush (-2), 2) := by decide +kernel
theorem dX10_sees_10 : decode cX10_sees 10 = .ok (.ireturn, 1) := by decide +kernel
theorem dX10_sees_11 : decode cX10_sees 11 = .ok (.iconst 0, 1) := by decide +kernel
theorem dX10_sees_12 : decode cX10_sees 12 = .ok (.istore_n 2, 1) := by decide +kernel
theorem dX10_sees_13 : decode cX10_sees 13 = .ok (.iconst 0, 1) := by decide +kernel
theorem dX10_sees_14 : decode cX10_sees 14 = .ok (.istore_n 3, 1) := by decide +kernel
theorem dX10_sees_15 : decode cX10_sees 15 = .ok (.iload_n 3, 1) := by decide +kernel
theorem dX10_sees_16 : decode cX10_sees 16 = .ok (.aload_n 0, 1) := by decide +kernel
theorem dX10_sees_17 : decode cX10_sees 17 = .ok (.invokevirtual 247, 3) := by decide +kernel
theorem dX10_sees_20 : decode cX10_sees 20 = .ok (.if_icmp .gt 20, 3) := by decide +kernel
theorem dX10_sees_23 : decode cX10_sees 23 = .ok (.iload_n 2, 1) := by decide +kernel
theorem dX10_sees_24 : decode cX10_sees 24 = .ok (.iconst 1, 1) := by decide +kernel
theorem dX10_sees_25 : decode cX10_sees 25 = .ok (.aload_n 0, 1) := by decide +kernel
theorem dX10_sees_26 : decode cX10_sees 26 = .ok (.iload_n 1, 1) := by decide +kernel
theorem dX10_sees_27 : decode cX10_sees 27 = .ok (.iload_n 3, 1) := by decide +kernel
theorem dX10_sees_28 : decode cX10_sees 28 = .ok (.invokevirtual 255, 3) := by decide +kernel
theorem dX10_sees_31 : decode cX10_sees 31 = .ok (.ishl, 1) := by decide +kernel
theorem dX10_sees_32 : decode cX10_sees 32 = .ok (.ior, 1) := by decide +kernel
theorem dX10_sees_33 : decode cX10_sees 33 = .ok (.istore_n 2, 1) := by decide +kernel
theorem dX10_sees_34 : decode cX10_sees 34 = .ok (.iinc 3 1, 3) := by decide +kernel
theorem dX10_sees_37 : decode cX10_sees 37 = .ok (.goto (-22), 3) := by decide +kernel
theorem dX10_sees_40 : decode cX10_sees 40 = .ok (.iload_n 2, 1) := by decide +kernel
theorem dX10_sees_41 : decode cX10_sees 41 = .ok (.ireturn, 1) := by decide +kernel
theorem dX10_firstMeet_0 : decode cX10_firstMeet 0 = .ok (.iconst 0, 1) := by decide +kernel
theorem dX10_firstMeet_1 : decode cX10_firstMeet 1 = .ok (.istore_n 3, 1) := by decide +kernel
theorem dX10_firstMeet_2 : decode cX10_firstMeet 2 = .ok (.iload_n 3, 1) := by decide +kernel
theorem dX10_firstMeet_3 : decode cX10_firstMeet 3 = .ok (.aload_n 0, 1) := by decide +kernel
theorem dX10_firstMeet_4 : decode cX10_firstMeet 4 = .ok (.invokevirtual 247, 3) := by decide +kernel
theorem dX10_firstMeet_7 : decode cX10_firstMeet 7 = .ok (.if_icmp .gt 21, 3) := by decide +kernel
theorem dX10_firstMeet_10 : decode cX10_firstMeet 10 = .ok (.aload_n 0, 1) := by decide +kernel
theorem dX10_firstMeet_11 : decode cX10_firstMeet 11 = .ok (.iload_n 1, 1) := by decide +kernel
theorem dX10_firstMeet_12 : decode cX10_firstMeet 12 = .ok (.iload_n 2, 1) := by decide +kernel
theorem dX10_firstMeet_13 : decode cX10_firstMeet 13 = .ok (.iload_n 3, 1) := by decide +kernel
theorem dX10_firstMeet_14 : decode cX10_firstMeet 14 = .ok (.invokevirtual 303, 3) := by decide +kernel
theorem dX10_firstMeet_17 : decode cX10_firstMeet 17 = .ok (.ifCond .eq 5, 3) := by decide +kernel
theorem dX10_firstMeet_20 : decode cX10_firstMeet 20 = .ok (.iload_n 3, 1) := by decide +kernel
theorem dX10_firstMeet_21 : decode cX10_firstMeet 21 = .ok (.ireturn, 1) := by decide +kernel
theorem dX10_firstMeet_22 : decode cX10_firstMeet 22 = .ok (.iinc 3 1, 3) := by decide +kernel
theorem dX10_firstMeet_25 : decode cX10_firstMeet 25 = .ok (.goto (-23), 3) := by decide +kernel
theorem dX10_firstMeet_28 : decode cX10_firstMeet 28 = .ok (.iconst (-1), 1) := by decide +kernel
theorem dX10_firstMeet_29 : decode cX10_firstMeet 29 = .ok (.ireturn, 1) := by decide +kernel
theorem dX10_meets_0 : decode cX10_meets 0 = .ok (.aload_n 0, 1) := by decide +kernel
theorem dX10_meets_1 : decode cX10_meets 1 = .ok (.iload_n 1, 1) := by decide +kernel
theorem dX10_meets_2 : decode cX10_meets 2 = .ok (.invokevirtual 288, 3) := by decide +kernel
theorem dX10_meets_5 : decode cX10_meets 5 = .ok (.ifCond .eq 21, 3) := by decide +kernel
theorem dX10_meets_8 : decode cX10_meets 8 = .ok (.aload_n 0, 1) := by decide +kernel
theorem dX10_meets_9 : decode cX10_meets 9 = .ok (.iload_n 2, 1) := by decide +kernel
theorem dX10_meets_10 : decode cX10_meets 10 = .ok (.i2l, 1) := by decide +kernel
theorem dX10_meets_11 : decode cX10_meets 11 = .ok (.invokevirtual 222, 3) := by decide +kernel
theorem dX10_meets_14 : decode cX10_meets 14 = .ok (.ifCond .eq 12, 3) := by decide +kernel
theorem dX10_meets_17 : decode cX10_meets 17 = .ok (.aload_n 0, 1) := by decide +kernel
theorem dX10_meets_18 : decode cX10_meets 18 = .ok (.iload_n 1, 1) := by decide +kernel
theorem dX10_meets_19 : decode cX10_meets 19 = .ok (.iload_n 2, 1) := by decide +kernel
theorem dX10_meets_20 : decode cX10_meets 20 = .ok (.invokevirtual 307, 3) := by decide +kernel
theorem dX10_meets_23 : decode cX10_meets 23 = .ok (.goto 5, 3) := by decide +kernel
theorem dX10_meets_26 : decode cX10_meets 26 = .ok (.bipush (-2), 2) := by decide +kernel
theorem dX10_meets_28 : decode cX10_meets 28 = .ok (.ireturn, 1) := by decide +kernel
theorem dX10_oftenMeet_0 : decode cX10_oftenMeet 0 = .ok (.iconst 0, 1) := by decide +kernel
theorem dX10_oftenMeet_1 : decode cX10_oftenMeet 1 = .ok (.istore_n 3, 1) := by decide +kernel
theorem dX10_oftenMeet_2 : decode cX10_oftenMeet 2 = .ok (.iconst 0, 1) := by decide +kernel
theorem dX10_oftenMeet_3 : decode cX10_oftenMeet 3 = .ok (.istore 4, 2) := by decide +kernel
theorem dX10_oftenMeet_5 : decode cX10_oftenMeet 5 = .ok (.iload 4, 2) := by decide +kernel
theorem dX10_oftenMeet_7 : decode cX10_oftenMeet 7 = .ok (.aload_n 0, 1) := by decide +kernel
theorem dX10_oftenMeet_8 : decode cX10_oftenMeet 8 = .ok (.invokevirtual 247, 3) := by decide +kernel
theorem dX10_oftenMeet_11 : decode cX10_oftenMeet 11 = .ok (.if_icmp .gt 28, 3) := by decide +kernel
theorem dX10_oftenMeet_14 : decode cX10_oftenMeet 14 = .ok (.iload_n 3, 1) := by decide +kernel
theorem dX10_oftenMeet_15 : decode cX10_oftenMeet 15 = .ok (.aload_n 0, 1) := by decide +kernel
theorem dX10_oftenMeet_16 : decode cX10_oftenMeet 16 = .ok (.iload_n 1, 1) := by decide +kernel
theorem dX10_oftenMeet_17 : decode cX10_oftenMeet 17 = .ok (.iload_n 2, 1) := by decide +kernel
theorem dX10_oftenMeet_18 : decode cX10_oftenMeet 18 = .ok (.iload 4, 2) := by decide +kernel
theorem dX10_oftenMeet_20 : decode cX10_oftenMeet 20 = .ok (.invokevirtual 303, 3) := by decide +kernel
theorem dX10_oftenMeet_23 : decode cX10_oftenMeet 23 = .ok (.ifCond .eq 7, 3) := by decide +kernel
theorem dX10_oftenMeet_26 : decode cX10_oftenMeet 26 = .ok (.iconst 1, 1) := by decide +kernel
theorem dX10_oftenMeet_27 : decode cX10_oftenMeet 27 = .ok (.goto 4, 3) := by decide +kernel
theorem dX10_oftenMeet_30 : decode cX10_oftenMeet 30 = .ok (.iconst 0, 1) := by decide +kernel
theorem dX10_oftenMeet_31 : decode cX10_oftenMeet 31 = .ok (.iadd, 1) := by decide +kernel
theorem dX10_oftenMeet_32 : decode cX10_oftenMeet 32 = .ok (.istore_n 3, 1) := by decide +kernel
theorem dX10_oftenMeet_33 : decode cX10_oftenMeet 33 = .ok (.iinc 4 1, 3) := by decide +kernel
theorem dX10_oftenMeet_36 : decode cX10_oftenMeet 36 = .ok (.goto (-31), 3) := by decide +kernel
theorem dX10_oftenMeet_39 : decode cX10_oftenMeet 39 = .ok (.iload_n 3, 1) := by decide +kernel
theorem dX10_oftenMeet_40 : decode cX10_oftenMeet 40 = .ok (.ireturn, 1) := by decide +kernel
theorem dX10_often_0 : decode cX10_often 0 = .ok (.aload_n 0, 1) := by decide +kernel
theorem dX10_often_1 : decode cX10_often 1 = .ok (.iload_n 1, 1) := by decide +kernel
theorem dX10_often_2 : decode cX10_often 2 = .ok (.invokevirtual 288, 3) := by decide +kernel
theorem dX10_often_5 : decode cX10_often 5 = .ok (.ifCond .eq 21, 3) := by decide +kernel
theorem dX10_often_8 : decode cX10_often 8 = .ok (.aload_n 0, 1) := by decide +kernel
theorem dX10_often_9 : decode cX10_often 9 = .ok (.iload_n 2, 1) := by decide +kernel
theorem dX10_often_10 : decode cX10_often 10 = .ok (.i2l, 1) := by decide +kernel
theorem dX10_often_11 : decode cX10_often 11 = .ok (.invokevirtual 222, 3) := by decide +kernel
theorem dX10_often_14 : decode cX10_often 14 = .ok (.ifCond .eq 12, 3) := by decide +kernel
theorem dX10_often_17 : decode cX10_often 17 = .ok (.aload_n 0, 1) := by decide +kernel
theorem dX10_often_18 : decode cX10_often 18 = .ok (.iload_n 1, 1) := by decide +kernel
theorem dX10_often_19 : decode cX10_often 19 = .ok (.iload_n 2, 1) := by decide +kernel
theorem dX10_often_20 : decode cX10_often 20 = .ok (.invokevirtual 310, 3) := by decide +kernel
theorem dX10_often_23 : decode cX10_often 23 = .ok (.goto 5, 3) := by decide +kernel
theorem dX10_often_26 : decode cX10_often 26 = .ok (.bipush (-2), 2) := by decide +kernel
theorem dX10_often_28 : decode cX10_often 28 = .ok (.ireturn, 1) := by decide +kernel
theorem dX10_friendsOf_0 : decode cX10_friendsOf 0 = .ok (.iconst 0, 1) := by decide +kernel
theorem dX10_friendsOf_1 : decode cX10_friendsOf 1 = .ok (.istore_n 2, 1) := by decide +kernel
theorem dX10_friendsOf_2 : decode cX10_friendsOf 2 = .ok (.iconst 0, 1) := by decide +kernel
theorem dX10_friendsOf_3 : decode cX10_friendsOf 3 = .ok (.istore_n 3, 1) := by decide +kernel
theorem dX10_friendsOf_4 : decode cX10_friendsOf 4 = .ok (.iload_n 3, 1) := by decide +kernel
theorem dX10_friendsOf_5 : decode cX10_friendsOf 5 = .ok (.aload_n 0, 1) := by decide +kernel
theorem dX10_friendsOf_6 : decode cX10_friendsOf 6 = .ok (.invokevirtual 244, 3) := by decide +kernel
theorem dX10_friendsOf_9 : decode cX10_friendsOf 9 = .ok (.if_icmp .ge 34, 3) := by decide +kernel
theorem dX10_friendsOf_12 : decode cX10_friendsOf 12 = .ok (.iload_n 2, 1) := by decide +kernel
theorem dX10_friendsOf_13 : decode cX10_friendsOf 13 = .ok (.iload_n 3, 1) := by decide +kernel
theorem dX10_friendsOf_14 : decode cX10_friendsOf 14 = .ok (.iload_n 1, 1) := by decide +kernel
theorem dX10_friendsOf_15 : decode cX10_friendsOf 15 = .ok (.if_icmp .eq 19, 3) := by decide +kernel
theorem dX10_friendsOf_18 : decode cX10_friendsOf 18 = .ok (.aload_n 0, 1) := by decide +kernel
theorem dX10_friendsOf_19 : decode cX10_friendsOf 19 = .ok (.iload_n 1, 1) := by decide +kernel
theorem dX10_friendsOf_20 : decode cX10_friendsOf 20 = .ok (.iload_n 3, 1) := by decide +kernel
theorem dX10_friendsOf_21 : decode cX10_friendsOf 21 = .ok (.invokevirtual 307, 3) := by decide +kernel
theorem dX10_friendsOf_24 : decode cX10_friendsOf 24 = .ok (.iconst (-1), 1) := by decide +kernel
theorem dX10_friendsOf_25 : decode cX10_friendsOf 25 = .ok (.if_icmp .eq 9, 3) := by decide +kernel
theorem dX10_friendsOf_28 : decode cX10_friendsOf 28 = .ok (.iconst 1, 1) := by decide +kernel
theorem dX10_friendsOf_29 : decode cX10_friendsOf 29 = .ok (.iload_n 3, 1) := by decide +kernel
theorem dX10_friendsOf_30 : decode cX10_friendsOf 30 = .ok (.ishl, 1) := by decide +kernel
theorem dX10_friendsOf_31 : decode cX10_friendsOf 31 = .ok (.goto 4, 3) := by decide +kernel
theorem dX10_friendsOf_34 : decode cX10_friendsOf 34 = .ok (.iconst 0, 1) := by decide +kernel
theorem dX10_friendsOf_35 : decode cX10_friendsOf 35 = .ok (.ior, 1) := by decide +kernel
theorem dX10_friendsOf_36 : decode cX10_friendsOf 36 = .ok (.istore_n 2, 1) := by decide +kernel
theorem dX10_friendsOf_37 : decode cX10_friendsOf 37 = .ok (.iinc 3 1, 3) := by decide +kernel
theorem dX10_friendsOf_40 : decode cX10_friendsOf 40 = .ok (.goto (-36), 3) := by decide +kernel
theorem dX10_friendsOf_43 : decode cX10_friendsOf 43 = .ok (.iload_n 2, 1) := by decide +kernel
theorem dX10_friendsOf_44 : decode cX10_friendsOf 44 = .ok (.ireturn, 1) := by decide +kernel
theorem dX10_friends_0 : decode cX10_friends 0 = .ok (.aload_n 0, 1) := by decide +kernel
theorem dX10_friends_1 : decode cX10_friends 1 = .ok (.iload_n 1, 1) := by decide +kernel
theorem dX10_friends_2 : decode cX10_friends 2 = .ok (.invokevirtual 288, 3) := by decide +kernel
theorem dX10_friends_5 : decode cX10_friends 5 = .ok (.ifCond .eq 11, 3) := by decide +kernel
theorem dX10_friends_8 : decode cX10_friends 8 = .ok (.aload_n 0, 1) := by decide +kernel
theorem dX10_friends_9 : decode cX10_friends 9 = .ok (.iload_n 1, 1) := by decide +kernel
theorem dX10_friends_10 : decode cX10_friends 10 = .ok (.invokevirtual 313, 3) := by decide +kernel
theorem dX10_friends_13 : decode cX10_friends 13 = .ok (.goto 5, 3) := by decide +kernel
theorem dX10_friends_16 : decode cX10_friends 16 = .ok (.bipush (-2), 2) := by decide +kernel
theorem dX10_friends_18 : decode cX10_friends 18 = .ok (.ireturn, 1) := by decide +kernel
theorem dX10_crushOf_0 : decode cX10_crushOf 0 = .ok (.aload_n 0, 1) := by decide +kernel
theorem dX10_crushOf_1 : decode cX10_crushOf 1 = .ok (.iconst 0, 1) := by decide +kernel
theorem dX10_crushOf_2 : decode cX10_crushOf 2 = .ok (.putfield 316, 3) := by decide +kernel
theorem dX10_crushOf_5 : decode cX10_crushOf 5 = .ok (.iconst 0, 1) := by decide +kernel
theorem dX10_crushOf_6 : decode cX10_crushOf 6 = .ok (.istore_n 1, 1) := by decide +kernel
theorem dX10_crushOf_7 : decode cX10_crushOf 7 = .ok (.iconst 0, 1) := by decide +kernel
theorem dX10_crushOf_8 : decode cX10_crushOf 8 = .ok (.istore_n 2, 1) := by decide +kernel
theorem dX10_crushOf_9 : decode cX10_crushOf 9 = .ok (.iload_n 2, 1) := by decide +kernel
theorem dX10_crushOf_10 : decode cX10_crushOf 10 = .ok (.aload_n 0, 1) := by decide +kernel
theorem dX10_crushOf_11 : decode cX10_crushOf 11 = .ok (.invokevirtual 247, 3) := by decide +kernel
theorem dX10_crushOf_14 : decode cX10_crushOf 14 = .ok (.if_icmp .gt 58, 3) := by decide +kernel
theorem dX10_crushOf_17 : decode cX10_crushOf 17 = .ok (.iconst 0, 1) := by decide +kernel
theorem dX10_crushOf_18 : decode cX10_crushOf 18 = .ok (.istore_n 3, 1) := by decide +kernel
theorem dX10_crushOf_19 : decode cX10_crushOf 19 = .ok (.iload_n 3, 1) := by decide +kernel
theorem dX10_crushOf_20 : decode cX10_crushOf 20 = .ok (.aload_n 0, 1) := by decide +kernel
theorem dX10_crushOf_21 : decode cX10_crushOf 21 = .ok (.getfield 9, 3) := by decide +kernel
theorem dX10_crushOf_24 : decode cX10_crushOf 24 = .ok (.iconst 0, 1) := by decide +kernel
theorem dX10_crushOf_25 : decode cX10_crushOf 25 = .ok (.iaload, 1) := by decide +kernel
theorem dX10_crushOf_26 : decode cX10_crushOf 26 = .ok (.if_icmp .ge 40, 3) := by decide +kernel
theorem dX10_crushOf_29 : decode cX10_crushOf 29 = .ok (.aload_n 0, 1) := by decide +kernel
theorem dX10_crushOf_30 : decode cX10_crushOf 30 = .ok (.iload_n 3, 1) := by decide +kernel
theorem dX10_crushOf_31 : decode cX10_crushOf 31 = .ok (.iload_n 2, 1) := by decide +kernel
theorem dX10_crushOf_32 : decode cX10_crushOf 32 = .ok (.invokevirtual 297, 3) := by decide +kernel
theorem dX10_crushOf_35 : decode cX10_crushOf 35 = .ok (.invokestatic 319, 3) := by decide +kernel
theorem dX10_crushOf_38 : decode cX10_crushOf 38 = .ok (.istore 4, 2) := by decide +kernel
theorem dX10_crushOf_40 : decode cX10_crushOf 40 = .ok (.iload 4, 2) := by decide +kernel
theorem dX10_crushOf_42 : decode cX10_crushOf 42 = .ok (.aload_n 0, 1) := by decide +kernel
theorem dX10_crushOf_43 : decode cX10_crushOf 43 = .ok (.getfield 316, 3) := by decide +kernel
theorem dX10_crushOf_46 : decode cX10_crushOf 46 = .ok (.if_icmp .gt 6, 3) := by decide +kernel
theorem dX10_crushOf_49 : decode cX10_crushOf 49 = .ok (.goto 11, 3) := by decide +kernel
theorem dX10_crushOf_52 : decode cX10_crushOf 52 = .ok (.aload_n 0, 1) := by decide +kernel
theorem dX10_crushOf_53 : decode cX10_crushOf 53 = .ok (.iload 4, 2) := by decide +kernel
theorem dX10_crushOf_55 : decode cX10_crushOf 55 = .ok (.putfield 316, 3) := by decide +kernel
theorem dX10_crushOf_58 : decode cX10_crushOf 58 = .ok (.iload_n 2, 1) := by decide +kernel
theorem dX10_crushOf_59 : decode cX10_crushOf 59 = .ok (.istore_n 1, 1) := by decide +kernel
theorem dX10_crushOf_60 : decode cX10_crushOf 60 = .ok (.iinc 3 1, 3) := by decide +kernel
theorem dX10_crushOf_63 : decode cX10_crushOf 63 = .ok (.goto (-44), 3) := by decide +kernel
theorem dX10_crushOf_66 : decode cX10_crushOf 66 = .ok (.iinc 2 1, 3) := by decide +kernel
theorem dX10_crushOf_69 : decode cX10_crushOf 69 = .ok (.goto (-60), 3) := by decide +kernel
theorem dX10_crushOf_72 : decode cX10_crushOf 72 = .ok (.iload_n 1, 1) := by decide +kernel
theorem dX10_crushOf_73 : decode cX10_crushOf 73 = .ok (.ireturn, 1) := by decide +kernel
theorem dX10_crush_0 : decode cX10_crush 0 = .ok (.aload_n 0, 1) := by decide +kernel
theorem dX10_crush_1 : decode cX10_crush 1 = .ok (.invokevirtual 322, 3) := by decide +kernel
theorem dX10_crush_4 : decode cX10_crush 4 = .ok (.ifCond .ne 6, 3) := by decide +kernel
theorem dX10_crush_7 : decode cX10_crush 7 = .ok (.bipush (-2), 2) := by decide +kernel
theorem dX10_crush_9 : decode cX10_crush 9 = .ok (.ireturn, 1) := by decide +kernel
theorem dX10_crush_10 : decode cX10_crush 10 = .ok (.aload_n 0, 1) := by decide +kernel
theorem dX10_crush_11 : decode cX10_crush 11 = .ok (.invokevirtual 325, 3) := by decide +kernel
theorem dX10_crush_14 : decode cX10_crush 14 = .ok (.pop, 1) := by decide +kernel
theorem dX10_crush_15 : decode cX10_crush 15 = .ok (.aload_n 0, 1) := by decide +kernel
theorem dX10_crush_16 : decode cX10_crush 16 = .ok (.getfield 316, 3) := by decide +kernel
theorem dX10_crush_19 : decode cX10_crush 19 = .ok (.ireturn, 1) := by decide +kernel
theorem dX10_crushed_0 : decode cX10_crushed 0 = .ok (.aload_n 0, 1) := by decide +kernel
theorem dX10_crushed_1 : decode cX10_crushed 1 = .ok (.invokevirtual 322, 3) := by decide +kernel
theorem dX10_crushed_4 : decode cX10_crushed 4 = .ok (.ifCond .eq 10, 3) := by decide +kernel
theorem dX10_crushed_7 : decode cX10_crushed 7 = .ok (.aload_n 0, 1) := by decide +kernel
theorem dX10_crushed_8 : decode cX10_crushed 8 = .ok (.invokevirtual 325, 3) := by decide +kernel
theorem dX10_crushed_11 : decode cX10_crushed 11 = .ok (.goto 5, 3) := by decide +kernel
theorem dX10_crushed_14 : decode cX10_crushed 14 = .ok (.bipush (-2), 2) := by decide +kernel
theorem dX10_crushed_16 : decode cX10_crushed 16 = .ok (.ireturn, 1) := by decide +kernel
theorem dX10_likes_0 : decode cX10_likes 0 = .ok (.aload_n 0, 1) := by decide +kernel
theorem dX10_likes_1 : decode cX10_likes 1 = .ok (.iload_n 1, 1) := by decide +kernel
theorem dX10_likes_2 : decode cX10_likes 2 = .ok (.invokevirtual 288, 3) := by decide +kernel
theorem dX10_likes_5 : decode cX10_likes 5 = .ok (.ifCond .ne 6, 3) := by decide +kernel
theorem dX10_likes_8 : decode cX10_likes 8 = .ok (.bipush (-2), 2) := by decide +kernel
theorem dX10_likes_10 : decode cX10_likes 10 = .ok (.ireturn, 1) := by decide +kernel
theorem dX10_likes_11 : decode cX10_likes 11 = .ok (.iconst 0, 1) := by decide +kernel
theorem dX10_likes_12 : decode cX10_likes 12 = .ok (.istore_n 2, 1) := by decide +kernel
theorem dX10_likes_13 : decode cX10_likes 13 = .ok (.iconst 0, 1) := by decide +kernel
theorem dX10_likes_14 : decode cX10_likes 14 = .ok (.istore_n 3, 1) := by decide +kernel
theorem dX10_likes_15 : decode cX10_likes 15 = .ok (.iconst 0, 1) := by decide +kernel
theorem dX10_likes_16 : decode cX10_likes 16 = .ok (.istore 4, 2) := by decide +kernel
theorem dX10_likes_18 : decode cX10_likes 18 = .ok (.iload 4, 2) := by decide +kernel
theorem dX10_likes_20 : decode cX10_likes 20 = .ok (.aload_n 0, 1) := by decide +kernel
theorem dX10_likes_21 : decode cX10_likes 21 = .ok (.getfield 9, 3) := by decide +kernel
theorem dX10_likes_24 : decode cX10_likes 24 = .ok (.iconst 0, 1) := by decide +kernel
theorem dX10_likes_25 : decode cX10_likes 25 = .ok (.iaload, 1) := by decide +kernel
theorem dX10_likes_26 : decode cX10_likes 26 = .ok (.if_icmp .ge 67, 3) := by decide +kernel
theorem dX10_likes_29 : decode cX10_likes 29 = .ok (.iconst 0, 1) := by decide +kernel
theorem dX10_likes_30 : decode cX10_likes 30 = .ok (.istore 5, 2) := by decide +kernel
theorem dX10_likes_32 : decode cX10_likes 32 = .ok (.iconst 0, 1) := by decide +kernel
theorem dX10_likes_33 : decode cX10_likes 33 = .ok (.istore 6, 2) := by decide +kernel
theorem dX10_likes_35 : decode cX10_likes 35 = .ok (.iload 6, 2) := by decide +kernel
theorem dX10_likes_37 : decode cX10_likes 37 = .ok (.aload_n 0, 1) := by decide +kernel
theorem dX10_likes_38 : decode cX10_likes 38 = .ok (.invokevirtual 247, 3) := by decide +kernel
theorem dX10_likes_41 : decode cX10_likes 41 = .ok (.if_icmp .gt 31, 3) := by decide +kernel
theorem dX10_likes_44 : decode cX10_likes 44 = .ok (.iload 5, 2) := by decide +kernel
theorem dX10_likes_46 : decode cX10_likes 46 = .ok (.aload_n 0, 1) := by decide +kernel
theorem dX10_likes_47 : decode cX10_likes 47 = .ok (.iload_n 1, 1) := by decide +kernel
theorem dX10_likes_48 : decode cX10_likes 48 = .ok (.iload 6, 2) := by decide +kernel
theorem dX10_likes_50 : decode cX10_likes 50 = .ok (.invokevirtual 255, 3) := by decide +kernel
theorem dX10_likes_53 : decode cX10_likes 53 = .ok (.iload 4, 2) := by decide +kernel
theorem dX10_likes_55 : decode cX10_likes 55 = .ok (.if_icmp .ne 7, 3) := by decide +kernel
theorem dX10_likes_58 : decode cX10_likes 58 = .ok (.iconst 1, 1) := by decide +kernel
theorem dX10_likes_59 : decode cX10_likes 59 = .ok (.goto 4, 3) := by decide +kernel
theorem dX10_likes_62 : decode cX10_likes 62 = .ok (.iconst 0, 1) := by decide +kernel
theorem dX10_likes_63 : decode cX10_likes 63 = .ok (.iadd, 1) := by decide +kernel
theorem dX10_likes_64 : decode cX10_likes 64 = .ok (.istore 5, 2) := by decide +kernel
theorem dX10_likes_66 : decode cX10_likes 66 = .ok (.iinc 6 1, 3) := by decide +kernel
theorem dX10_likes_69 : decode cX10_likes 69 = .ok (.goto (-34), 3) := by decide +kernel
theorem dX10_likes_72 : decode cX10_likes 72 = .ok (.iload 5, 2) := by decide +kernel
theorem dX10_likes_74 : decode cX10_likes 74 = .ok (.iload_n 3, 1) := by decide +kernel
theorem dX10_likes_75 : decode cX10_likes 75 = .ok (.if_icmp .gt 6, 3) := by decide +kernel
theorem dX10_likes_78 : decode cX10_likes 78 = .ok (.goto 9, 3) := by decide +kernel
theorem dX10_likes_81 : decode cX10_likes 81 = .ok (.iload 5, 2) := by decide +kernel
theorem dX10_likes_83 : decode cX10_likes 83 = .ok (.istore_n 3, 1) := by decide +kernel
theorem dX10_likes_84 : decode cX10_likes 84 = .ok (.iload 4, 2) := by decide +kernel
theorem dX10_likes_86 : decode cX10_likes 86 = .ok (.istore_n 2, 1) := by decide +kernel
theorem dX10_likes_87 : decode cX10_likes 87 = .ok (.iinc 4 1, 3) := by decide +kernel
theorem dX10_likes_90 : decode cX10_likes 90 = .ok (.goto (-72), 3) := by decide +kernel
theorem dX10_likes_93 : decode cX10_likes 93 = .ok (.iload_n 2, 1) := by decide +kernel
theorem dX10_likes_94 : decode cX10_likes 94 = .ok (.ireturn, 1) := by decide +kernel
theorem dX10_apart_0 : decode cX10_apart 0 = .ok (.aload_n 0, 1) := by decide +kernel
theorem dX10_apart_1 : decode cX10_apart 1 = .ok (.iload_n 3, 1) := by decide +kernel
theorem dX10_apart_2 : decode cX10_apart 2 = .ok (.invokevirtual 294, 3) := by decide +kernel
theorem dX10_apart_5 : decode cX10_apart 5 = .ok (.ifCond .eq 21, 3) := by decide +kernel
theorem dX10_apart_8 : decode cX10_apart 8 = .ok (.aload_n 0, 1) := by decide +kernel
theorem dX10_apart_9 : decode cX10_apart 9 = .ok (.iload_n 1, 1) := by decide +kernel
theorem dX10_apart_10 : decode cX10_apart 10 = .ok (.i2l, 1) := by decide +kernel
theorem dX10_apart_11 : decode cX10_apart 11 = .ok (.invokevirtual 222, 3) := by decide +kernel
theorem dX10_apart_14 : decode cX10_apart 14 = .ok (.ifCond .eq 12, 3) := by decide +kernel
theorem dX10_apart_17 : decode cX10_apart 17 = .ok (.aload_n 0, 1) := by decide +kernel
theorem dX10_apart_18 : decode cX10_apart 18 = .ok (.iload_n 2, 1) := by decide +kernel
theorem dX10_apart_19 : decode cX10_apart 19 = .ok (.i2l, 1) := by decide +kernel
theorem dX10_apart_20 : decode cX10_apart 20 = .ok (.invokevirtual 222, 3) := by decide +kernel
theorem dX10_apart_23 : decode cX10_apart 23 = .ok (.ifCond .ne 6, 3) := by decide +kernel
theorem dX10_apart_26 : decode cX10_apart 26 = .ok (.bipush (-2), 2) := by decide +kernel
theorem dX10_apart_28 : decode cX10_apart 28 = .ok (.ireturn, 1) := by decide +kernel
theorem dX10_apart_29 : decode cX10_apart 29 = .ok (.aload_n 0, 1) := by decide +kernel
theorem dX10_apart_30 : decode cX10_apart 30 = .ok (.aload_n 0, 1) := by decide +kernel
theorem dX10_apart_31 : decode cX10_apart 31 = .ok (.iload_n 1, 1) := by decide +kernel
theorem dX10_apart_32 : decode cX10_apart 32 = .ok (.invokevirtual 238, 3) := by decide +kernel
