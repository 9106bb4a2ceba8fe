theorem dX10_row_12 : decode cX10_row 12 = .ok (.invokevirtual 187, 3) := by decide +kernel
theorem dX10_row_15 : decode cX10_row 15 = .ok (.aload_n 0, 1) := by decide +kernel
theorem dX10_row_16 : decode cX10_row 16 = .ok (.getfield 19, 3) := by decide +kernel
theorem dX10_row_19 : decode cX10_row 19 = .ok (.getfield 85, 3) := by decide +kernel
theorem dX10_row_22 : decode cX10_row 22 = .ok (.iload_n 1, 1) := by decide +kernel
theorem dX10_row_23 : decode cX10_row 23 = .ok (.invokevirtual 337, 3) := by decide +kernel
theorem dX10_row_26 : decode cX10_row 26 = .ok (.ireturn, 1) := by decide +kernel
theorem dX10_season_0 : decode cX10_season 0 = .ok (.aload_n 0, 1) := by decide +kernel
theorem dX10_season_1 : decode cX10_season 1 = .ok (.iload_n 2, 1) := by decide +kernel
theorem dX10_season_2 : decode cX10_season 2 = .ok (.iconst 0, 1) := by decide +kernel
theorem dX10_season_3 : decode cX10_season 3 = .ok (.bipush 16, 2) := by decide +kernel
theorem dX10_season_5 : decode cX10_season 5 = .ok (.invokevirtual 158, 3) := by decide +kernel
theorem dX10_season_8 : decode cX10_season 8 = .ok (.aload_n 0, 1) := by decide +kernel
theorem dX10_season_9 : decode cX10_season 9 = .ok (.iload_n 3, 1) := by decide +kernel
theorem dX10_season_10 : decode cX10_season 10 = .ok (.iconst 1, 1) := by decide +kernel
theorem dX10_season_11 : decode cX10_season 11 = .ok (.bipush 96, 2) := by decide +kernel
theorem dX10_season_13 : decode cX10_season 13 = .ok (.invokevirtual 158, 3) := by decide +kernel
theorem dX10_season_16 : decode cX10_season 16 = .ok (.aload_n 0, 1) := by decide +kernel
theorem dX10_season_17 : decode cX10_season 17 = .ok (.iload 4, 2) := by decide +kernel
theorem dX10_season_19 : decode cX10_season 19 = .ok (.iconst 0, 1) := by decide +kernel
theorem dX10_season_20 : decode cX10_season 20 = .ok (.iconst 3, 1) := by decide +kernel
theorem dX10_season_21 : decode cX10_season 21 = .ok (.invokevirtual 158, 3) := by decide +kernel
theorem dX10_season_24 : decode cX10_season 24 = .ok (.aload_n 0, 1) := by decide +kernel
theorem dX10_season_25 : decode cX10_season 25 = .ok (.getfield 30, 3) := by decide +kernel
theorem dX10_season_28 : decode cX10_season 28 = .ok (.aload_n 0, 1) := by decide +kernel
theorem dX10_season_29 : decode cX10_season 29 = .ok (.getfield 26, 3) := by decide +kernel
theorem dX10_season_32 : decode cX10_season 32 = .ok (.invokevirtual 252, 3) := by decide +kernel
theorem dX10_season_35 : decode cX10_season 35 = .ok (.aload_n 0, 1) := by decide +kernel
theorem dX10_season_36 : decode cX10_season 36 = .ok (.getfield 57, 3) := by decide +kernel
theorem dX10_season_39 : decode cX10_season 39 = .ok (.aload_n 0, 1) := by decide +kernel
theorem dX10_season_40 : decode cX10_season 40 = .ok (.getfield 19, 3) := by decide +kernel
theorem dX10_season_43 : decode cX10_season 43 = .ok (.aload_n 0, 1) := by decide +kernel
theorem dX10_season_44 : decode cX10_season 44 = .ok (.getfield 30, 3) := by decide +kernel
theorem dX10_season_47 : decode cX10_season 47 = .ok (.iload_n 1, 1) := by decide +kernel
theorem dX10_season_48 : decode cX10_season 48 = .ok (.iload_n 2, 1) := by decide +kernel
theorem dX10_season_49 : decode cX10_season 49 = .ok (.iload_n 3, 1) := by decide +kernel
theorem dX10_season_50 : decode cX10_season 50 = .ok (.invokevirtual 340, 3) := by decide +kernel
theorem dX10_season_53 : decode cX10_season 53 = .ok (.aload_n 0, 1) := by decide +kernel
theorem dX10_season_54 : decode cX10_season 54 = .ok (.iload 4, 2) := by decide +kernel
theorem dX10_season_56 : decode cX10_season 56 = .ok (.invokevirtual 258, 3) := by decide +kernel
theorem dX10_season_59 : decode cX10_season 59 = .ok (.ireturn, 1) := by decide +kernel
theorem dX10_span_0 : decode cX10_span 0 = .ok (.aload_n 0, 1) := by decide +kernel
theorem dX10_span_1 : decode cX10_span 1 = .ok (.iload_n 2, 1) := by decide +kernel
theorem dX10_span_2 : decode cX10_span 2 = .ok (.iconst 1, 1) := by decide +kernel
theorem dX10_span_3 : decode cX10_span 3 = .ok (.bipush 20, 2) := by decide +kernel
theorem dX10_span_5 : decode cX10_span 5 = .ok (.invokevirtual 158, 3) := by decide +kernel
theorem dX10_span_8 : decode cX10_span 8 = .ok (.aload_n 0, 1) := by decide +kernel
theorem dX10_span_9 : decode cX10_span 9 = .ok (.iload_n 3, 1) := by decide +kernel
theorem dX10_span_10 : decode cX10_span 10 = .ok (.iconst 0, 1) := by decide +kernel
theorem dX10_span_11 : decode cX10_span 11 = .ok (.bipush 16, 2) := by decide +kernel
theorem dX10_span_13 : decode cX10_span 13 = .ok (.invokevirtual 158, 3) := by decide +kernel
theorem dX10_span_16 : decode cX10_span 16 = .ok (.aload_n 0, 1) := by decide +kernel
theorem dX10_span_17 : decode cX10_span 17 = .ok (.iload 4, 2) := by decide +kernel
theorem dX10_span_19 : decode cX10_span 19 = .ok (.iconst 1, 1) := by decide +kernel
theorem dX10_span_20 : decode cX10_span 20 = .ok (.bipush 96, 2) := by decide +kernel
theorem dX10_span_22 : decode cX10_span 22 = .ok (.invokevirtual 158, 3) := by decide +kernel
theorem dX10_span_25 : decode cX10_span 25 = .ok (.aload_n 0, 1) := by decide +kernel
theorem dX10_span_26 : decode cX10_span 26 = .ok (.iload 5, 2) := by decide +kernel
theorem dX10_span_28 : decode cX10_span 28 = .ok (.iconst 0, 1) := by decide +kernel
theorem dX10_span_29 : decode cX10_span 29 = .ok (.iconst 2, 1) := by decide +kernel
theorem dX10_span_30 : decode cX10_span 30 = .ok (.invokevirtual 158, 3) := by decide +kernel
theorem dX10_span_33 : decode cX10_span 33 = .ok (.ldc_w 343, 3) := by decide +kernel
theorem dX10_span_36 : decode cX10_span 36 = .ok (.istore 6, 2) := by decide +kernel
theorem dX10_span_38 : decode cX10_span 38 = .ok (.iconst 0, 1) := by decide +kernel
theorem dX10_span_39 : decode cX10_span 39 = .ok (.istore 7, 2) := by decide +kernel
theorem dX10_span_41 : decode cX10_span 41 = .ok (.iconst 0, 1) := by decide +kernel
theorem dX10_span_42 : decode cX10_span 42 = .ok (.istore 8, 2) := by decide +kernel
theorem dX10_span_44 : decode cX10_span 44 = .ok (.iconst 0, 1) := by decide +kernel
theorem dX10_span_45 : decode cX10_span 45 = .ok (.istore 9, 2) := by decide +kernel
theorem dX10_span_47 : decode cX10_span 47 = .ok (.iload 9, 2) := by decide +kernel
theorem dX10_span_49 : decode cX10_span 49 = .ok (.iload_n 2, 1) := by decide +kernel
theorem dX10_span_50 : decode cX10_span 50 = .ok (.if_icmp .ge 96, 3) := by decide +kernel
theorem dX10_span_53 : decode cX10_span 53 = .ok (.aload_n 0, 1) := by decide +kernel
theorem dX10_span_54 : decode cX10_span 54 = .ok (.getfield 30, 3) := by decide +kernel
theorem dX10_span_57 : decode cX10_span 57 = .ok (.aload_n 0, 1) := by decide +kernel
theorem dX10_span_58 : decode cX10_span 58 = .ok (.getfield 26, 3) := by decide +kernel
theorem dX10_span_61 : decode cX10_span 61 = .ok (.invokevirtual 252, 3) := by decide +kernel
theorem dX10_span_64 : decode cX10_span 64 = .ok (.aload_n 0, 1) := by decide +kernel
theorem dX10_span_65 : decode cX10_span 65 = .ok (.getfield 57, 3) := by decide +kernel
theorem dX10_span_68 : decode cX10_span 68 = .ok (.aload_n 0, 1) := by decide +kernel
theorem dX10_span_69 : decode cX10_span 69 = .ok (.getfield 19, 3) := by decide +kernel
theorem dX10_span_72 : decode cX10_span 72 = .ok (.aload_n 0, 1) := by decide +kernel
theorem dX10_span_73 : decode cX10_span 73 = .ok (.getfield 30, 3) := by decide +kernel
theorem dX10_span_76 : decode cX10_span 76 = .ok (.iload_n 1, 1) := by decide +kernel
theorem dX10_span_77 : decode cX10_span 77 = .ok (.iload 9, 2) := by decide +kernel
theorem dX10_span_79 : decode cX10_span 79 = .ok (.iadd, 1) := by decide +kernel
theorem dX10_span_80 : decode cX10_span 80 = .ok (.iload_n 3, 1) := by decide +kernel
theorem dX10_span_81 : decode cX10_span 81 = .ok (.iload 4, 2) := by decide +kernel
theorem dX10_span_83 : decode cX10_span 83 = .ok (.invokevirtual 340, 3) := by decide +kernel
theorem dX10_span_86 : decode cX10_span 86 = .ok (.aload_n 0, 1) := by decide +kernel
theorem dX10_span_87 : decode cX10_span 87 = .ok (.getfield 30, 3) := by decide +kernel
theorem dX10_span_90 : decode cX10_span 90 = .ok (.invokevirtual 184, 3) := by decide +kernel
theorem dX10_span_93 : decode cX10_span 93 = .ok (.istore 10, 2) := by decide +kernel
theorem dX10_span_95 : decode cX10_span 95 = .ok (.iload 6, 2) := by decide +kernel
theorem dX10_span_97 : decode cX10_span 97 = .ok (.iload 10, 2) := by decide +kernel
theorem dX10_span_99 : decode cX10_span 99 = .ok (.invokestatic 326, 3) := by decide +kernel
theorem dX10_span_102 : decode cX10_span 102 = .ok (.istore 6, 2) := by decide +kernel
theorem dX10_span_104 : decode cX10_span 104 = .ok (.iload 7, 2) := by decide +kernel
theorem dX10_span_106 : decode cX10_span 106 = .ok (.iload 10, 2) := by decide +kernel
theorem dX10_span_108 : decode cX10_span 108 = .ok (.invokestatic 344, 3) := by decide +kernel
theorem dX10_span_111 : decode cX10_span 111 = .ok (.istore 7, 2) := by decide +kernel
theorem dX10_span_113 : decode cX10_span 113 = .ok (.iload 8, 2) := by decide +kernel
theorem dX10_span_115 : decode cX10_span 115 = .ok (.aload_n 0, 1) := by decide +kernel
theorem dX10_span_116 : decode cX10_span 116 = .ok (.getfield 30, 3) := by decide +kernel
theorem dX10_span_119 : decode cX10_span 119 = .ok (.getfield 171, 3) := by decide +kernel
theorem dX10_span_122 : decode cX10_span 122 = .ok (.aload_n 0, 1) := by decide +kernel
theorem dX10_span_123 : decode cX10_span 123 = .ok (.getfield 26, 3) := by decide +kernel
theorem dX10_span_126 : decode cX10_span 126 = .ok (.getfield 171, 3) := by decide +kernel
theorem dX10_span_129 : decode cX10_span 129 = .ok (.if_icmp .ne 7, 3) := by decide +kernel
theorem dX10_span_132 : decode cX10_span 132 = .ok (.iconst 1, 1) := by decide +kernel
theorem dX10_span_133 : decode cX10_span 133 = .ok (.goto 4, 3) := by decide +kernel
theorem dX10_span_136 : decode cX10_span 136 = .ok (.iconst 0, 1) := by decide +kernel
theorem dX10_span_137 : decode cX10_span 137 = .ok (.iadd, 1) := by decide +kernel
theorem dX10_span_138 : decode cX10_span 138 = .ok (.istore 8, 2) := by decide +kernel
theorem dX10_span_140 : decode cX10_span 140 = .ok (.iinc 9 1, 3) := by decide +kernel
theorem dX10_span_143 : decode cX10_span 143 = .ok (.goto (-96), 3) := by decide +kernel
theorem dX10_span_146 : decode cX10_span 146 = .ok (.iload 5, 2) := by decide +kernel
theorem dX10_span_148 : decode cX10_span 148 = .ok (.ifCond .ne 8, 3) := by decide +kernel
theorem dX10_span_151 : decode cX10_span 151 = .ok (.iload 6, 2) := by decide +kernel
theorem dX10_span_153 : decode cX10_span 153 = .ok (.goto 16, 3) := by decide +kernel
theorem dX10_span_156 : decode cX10_span 156 = .ok (.iload 5, 2) := by decide +kernel
theorem dX10_span_158 : decode cX10_span 158 = .ok (.iconst 1, 1) := by decide +kernel
theorem dX10_span_159 : decode cX10_span 159 = .ok (.if_icmp .ne 8, 3) := by decide +kernel
theorem dX10_span_162 : decode cX10_span 162 = .ok (.iload 7, 2) := by decide +kernel
theorem dX10_span_164 : decode cX10_span 164 = .ok (.goto 5, 3) := by decide +kernel
theorem dX10_span_167 : decode cX10_span 167 = .ok (.iload 8, 2) := by decide +kernel
theorem dX10_span_169 : decode cX10_span 169 = .ok (.ireturn, 1) := by decide +kernel
theorem dX10_image_0 : decode cX10_image 0 = .ok (.aload_n 0, 1) := by decide +kernel
theorem dX10_image_1 : decode cX10_image 1 = .ok (.getfield 43, 3) := by decide +kernel
theorem dX10_image_4 : decode cX10_image 4 = .ok (.aload_n 0, 1) := by decide +kernel
theorem dX10_image_5 : decode cX10_image 5 = .ok (.getfield 26, 3) := by decide +kernel
theorem dX10_image_8 : decode cX10_image 8 = .ok (.invokevirtual 347, 3) := by decide +kernel
theorem dX10_image_11 : decode cX10_image 11 = .ok (.ifCond .eq 13, 3) := by decide +kernel
theorem dX10_image_14 : decode cX10_image 14 = .ok (.aload_n 0, 1) := by decide +kernel
theorem dX10_image_15 : decode cX10_image 15 = .ok (.getfield 43, 3) := by decide +kernel
theorem dX10_image_18 : decode cX10_image 18 = .ok (.getfield 350, 3) := by decide +kernel
theorem dX10_image_21 : decode cX10_image 21 = .ok (.goto 4, 3) := by decide +kernel
theorem dX10_image_24 : decode cX10_image 24 = .ok (.iconst (-1), 1) := by decide +kernel
theorem dX10_image_25 : decode cX10_image 25 = .ok (.ireturn, 1) := by decide +kernel
theorem dX10_restore_0 : decode cX10_restore 0 = .ok (.aload_n 0, 1) := by decide +kernel
theorem dX10_restore_1 : decode cX10_restore 1 = .ok (.getfield 43, 3) := by decide +kernel
theorem dX10_restore_4 : decode cX10_restore 4 = .ok (.aload_n 0, 1) := by decide +kernel
theorem dX10_restore_5 : decode cX10_restore 5 = .ok (.getfield 26, 3) := by decide +kernel
theorem dX10_restore_8 : decode cX10_restore 8 = .ok (.invokevirtual 353, 3) := by decide +kernel
theorem dX10_restore_11 : decode cX10_restore 11 = .ok (.ifCond .ne 5, 3) := by decide +kernel
theorem dX10_restore_14 : decode cX10_restore 14 = .ok (.iconst (-1), 1) := by decide +kernel
theorem dX10_restore_15 : decode cX10_restore 15 = .ok (.ireturn, 1) := by decide +kernel
theorem dX10_restore_16 : decode cX10_restore 16 = .ok (.aload_n 0, 1) := by decide +kernel
theorem dX10_restore_17 : decode cX10_restore 17 = .ok (.iconst 0, 1) := by decide +kernel
theorem dX10_restore_18 : decode cX10_restore 18 = .ok (.putfield 124, 3) := by decide +kernel
theorem dX10_restore_21 : decode cX10_restore 21 = .ok (.aload_n 0, 1) := by decide +kernel
theorem dX10_restore_22 : decode cX10_restore 22 = .ok (.getfield 43, 3) := by decide +kernel
theorem dX10_restore_25 : decode cX10_restore 25 = .ok (.getfield 350, 3) := by decide +kernel
theorem dX10_restore_28 : decode cX10_restore 28 = .ok (.ireturn, 1) := by decide +kernel
theorem dX10_status_0 : decode cX10_status 0 = .ok (.iload_n 1, 1) := by decide +kernel
theorem dX10_status_1 : decode cX10_status 1 = .ok (.ifCond .ne 10, 3) := by decide +kernel
theorem dX10_status_4 : decode cX10_status 4 = .ok (.aload_n 0, 1) := by decide +kernel
theorem dX10_status_5 : decode cX10_status 5 = .ok (.getfield 356, 3) := by decide +kernel
theorem dX10_status_8 : decode cX10_status 8 = .ok (.goto 16, 3) := by decide +kernel
theorem dX10_status_11 : decode cX10_status 11 = .ok (.iload_n 1, 1) := by decide +kernel
theorem dX10_status_12 : decode cX10_status 12 = .ok (.iconst 1, 1) := by decide +kernel
theorem dX10_status_13 : decode cX10_status 13 = .ok (.if_icmp .ne 10, 3) := by decide +kernel
theorem dX10_status_16 : decode cX10_status 16 = .ok (.aload_n 0, 1) := by decide +kernel
theorem dX10_status_17 : decode cX10_status 17 = .ok (.getfield 359, 3) := by decide +kernel
theorem dX10_status_20 : decode cX10_status 20 = .ok (.goto 4, 3) := by decide +kernel
theorem dX10_status_23 : decode cX10_status 23 = .ok (.iconst (-1), 1) := by decide +kernel
theorem dX10_status_24 : decode cX10_status 24 = .ok (.ireturn, 1) := by decide +kernel
theorem dX10_count_0 : decode cX10_count 0 = .ok (.iload_n 1, 1) := by decide +kernel
theorem dX10_count_1 : decode cX10_count 1 = .ok (.ifCond .ne 13, 3) := by decide +kernel
theorem dX10_count_4 : decode cX10_count 4 = .ok (.aload_n 0, 1) := by decide +kernel
theorem dX10_count_5 : decode cX10_count 5 = .ok (.getfield 43, 3) := by decide +kernel
theorem dX10_count_8 : decode cX10_count 8 = .ok (.getfield 350, 3) := by decide +kernel
theorem dX10_count_11 : decode cX10_count 11 = .ok (.goto 34, 3) := by decide +kernel
theorem dX10_count_14 : decode cX10_count 14 = .ok (.iload_n 1, 1) := by decide +kernel
theorem dX10_count_15 : decode cX10_count 15 = .ok (.iconst 1, 1) := by decide +kernel
theorem dX10_count_16 : decode cX10_count 16 = .ok (.if_icmp .ne 13, 3) := by decide +kernel
theorem dX10_count_19 : decode cX10_count 19 = .ok (.aload_n 0, 1) := by decide +kernel
theorem dX10_count_20 : decode cX10_count 20 = .ok (.getfield 10, 3) := by decide +kernel
theorem dX10_count_23 : decode cX10_count 23 = .ok (.getfield 92, 3) := by decide +kernel
theorem dX10_count_26 : decode cX10_count 26 = .ok (.goto 19, 3) := by decide +kernel
theorem dX10_count_29 : decode cX10_count 29 = .ok (.iload_n 1, 1) := by decide +kernel
theorem dX10_count_30 : decode cX10_count 30 = .ok (.iconst 2, 1) := by decide +kernel
theorem dX10_count_31 : decode cX10_count 31 = .ok (.if_icmp .ne 13, 3) := by decide +kernel
theorem dX10_count_34 : decode cX10_count 34 = .ok (.aload_n 0, 1) := by decide +kernel
theorem dX10_count_35 : decode cX10_count 35 = .ok (.getfield 43, 3) := by decide +kernel
theorem dX10_count_38 : decode cX10_count 38 = .ok (.getfield 131, 3) := by decide +kernel
theorem dX10_count_41 : decode cX10_count 41 = .ok (.goto 4, 3) := by decide +kernel
theorem dX10_count_44 : decode cX10_count 44 = .ok (.iconst (-1), 1) := by decide +kernel
theorem dX10_count_45 : decode cX10_count 45 = .ok (.ireturn, 1) := by decide +kernel
theorem dX10_needOneOf_0 : decode cX10_needOneOf 0 = .ok (.iload_n 1, 1) := by decide +kernel
theorem dX10_needOneOf_1 : decode cX10_needOneOf 1 = .ok (.ifCond .lt 8, 3) := by decide +kernel
theorem dX10_needOneOf_4 : decode cX10_needOneOf 4 = .ok (.iload_n 1, 1) := by decide +kernel
theorem dX10_needOneOf_5 : decode cX10_needOneOf 5 = .ok (.iload_n 2, 1) := by decide +kernel
theorem dX10_needOneOf_6 : decode cX10_needOneOf 6 = .ok (.if_icmp .lt 24, 3) := by decide +kernel
theorem dX10_needOneOf_9 : decode cX10_needOneOf 9 = .ok (.aload_n 0, 1) := by decide +kernel
theorem dX10_needOneOf_10 : decode cX10_needOneOf 10 = .ok (.dup, 1) := by decide +kernel
theorem dX10_needOneOf_11 : decode cX10_needOneOf 11 = .ok (.getfield 356, 3) := by decide +kernel
theorem dX10_needOneOf_14 : decode cX10_needOneOf 14 = .ok (.iconst 1, 1) := by decide +kernel
theorem dX10_needOneOf_15 : decode cX10_needOneOf 15 = .ok (.iadd, 1) := by decide +kernel
theorem dX10_needOneOf_16 : decode cX10_needOneOf 16 = .ok (.putfield 356, 3) := by decide +kernel
theorem dX10_needOneOf_19 : decode cX10_needOneOf 19 = .ok (.new 362, 3) := by decide +kernel
theorem dX10_needOneOf_22 : decode cX10_needOneOf 22 = .ok (.dup, 1) := by decide +kernel
theorem dX10_needOneOf_23 : decode cX10_needOneOf 23 = .ok (.ldc_w 364, 3) := by decide +kernel
theorem dX10_needOneOf_26 : decode cX10_needOneOf 26 = .ok (.invokespecial 366, 3) := by decide +kernel
theorem dX10_needOneOf_29 : decode cX10_needOneOf 29 = .ok (.athrow, 1) := by decide +kernel
theorem dX10_needOneOf_30 : decode cX10_needOneOf 30 = .ok (.return_, 1) := by decide +kernel
theorem dX10_needWithin_0 : decode cX10_needWithin 0 = .ok (.iload_n 1, 1) := by decide +kernel
theorem dX10_needWithin_1 : decode cX10_needWithin 1 = .ok (.iload_n 2, 1) := by decide +kernel
theorem dX10_needWithin_2 : decode cX10_needWithin 2 = .ok (.if_icmp .lt 8, 3) := by decide +kernel
theorem dX10_needWithin_5 : decode cX10_needWithin 5 = .ok (.iload_n 1, 1) := by decide +kernel
theorem dX10_needWithin_6 : decode cX10_needWithin 6 = .ok (.iload_n 3, 1) := by decide +kernel
theorem dX10_needWithin_7 : decode cX10_needWithin 7 = .ok (.if_icmp .le 24, 3) := by decide +kernel
theorem dX10_needWithin_10 : decode cX10_needWithin 10 = .ok (.aload_n 0, 1) := by decide +kernel
theorem dX10_needWithin_11 : decode cX10_needWithin 11 = .ok (.dup, 1) := by decide +kernel
theorem dX10_needWithin_12 : decode cX10_needWithin 12 = .ok (.getfield 359, 3) := by decide +kernel
theorem dX10_needWithin_15 : decode cX10_needWithin 15 = .ok (.iconst 1, 1) := by decide +kernel
theorem dX10_needWithin_16 : decode cX10_needWithin 16 = .ok (.iadd, 1) := by decide +kernel
theorem dX10_needWithin_17 : decode cX10_needWithin 17 = .ok (.putfield 359, 3) := by decide +kernel
theorem dX10_needWithin_20 : decode cX10_needWithin 20 = .ok (.new 369, 3) := by decide +kernel
theorem dX10_needWithin_23 : decode cX10_needWithin 23 = .ok (.dup, 1) := by decide +kernel
theorem dX10_needWithin_24 : decode cX10_needWithin 24 = .ok (.ldc_w 371, 3) := by decide +kernel
theorem dX10_needWithin_27 : decode cX10_needWithin 27 = .ok (.invokespecial 373, 3) := by decide +kernel
theorem dX10_needWithin_30 : decode cX10_needWithin 30 = .ok (.athrow, 1) := by decide +kernel
theorem dX10_needWithin_31 : decode cX10_needWithin 31 = .ok (.return_, 1) := by decide +kernel
theorem dX10_needText_0 : decode cX10_needText 0 = .ok (.aload_n 0, 1) := by decide +kernel
theorem dX10_needText_1 : decode cX10_needText 1 = .ok (.iload_n 1, 1) := by decide +kernel
theorem dX10_needText_2 : decode cX10_needText 2 = .ok (.iconst 0, 1) := by decide +kernel
theorem dX10_needText_3 : decode cX10_needText 3 = .ok (.aload_n 0, 1) := by decide +kernel
theorem dX10_needText_4 : decode cX10_needText 4 = .ok (.getfield 10, 3) := by decide +kernel
theorem dX10_needText_7 : decode cX10_needText 7 = .ok (.getfield 92, 3) := by decide +kernel
theorem dX10_needText_10 : decode cX10_needText 10 = .ok (.iload_n 2, 1) := by decide +kernel
theorem dX10_needText_11 : decode cX10_needText 11 = .ok (.invokestatic 326, 3) := by decide +kernel
theorem dX10_needText_14 : decode cX10_needText 14 = .ok (.invokevirtual 158, 3) := by decide +kernel
theorem dX10_needText_17 : decode cX10_needText 17 = .ok (.return_, 1) := by decide +kernel
theorem dX10_outcome_0 : decode cX10_outcome 0 = .ok (.iload_n 1, 1) := by decide +kernel
theorem dX10_outcome_1 : decode cX10_outcome 1 = .ok (.tableswitch 51 0 2 #[27, 35, 43], 27) := by decide +kernel
theorem dX10_outcome_28 : decode cX10_outcome 28 = .ok (.aload_n 0, 1) := by decide +kernel
theorem dX10_outcome_29 : decode cX10_outcome 29 = .ok (.getfield 30, 3) := by decide +kernel
theorem dX10_outcome_32 : decode cX10_outcome 32 = .ok (.invokevirtual 184, 3) := by decide +kernel
theorem dX10_outcome_35 : decode cX10_outcome 35 = .ok (.ireturn, 1) := by decide +kernel
theorem dX10_outcome_36 : decode cX10_outcome 36 = .ok (.aload_n 0, 1) := by decide +kernel
theorem dX10_outcome_37 : decode cX10_outcome 37 = .ok (.getfield 30, 3) := by decide +kernel
theorem dX10_outcome_40 : decode cX10_outcome 40 = .ok (.getfield 171, 3) := by decide +kernel
theorem dX10_outcome_43 : decode cX10_outcome 43 = .ok (.ireturn, 1) := by decide +kernel
theorem dX10_outcome_44 : decode cX10_outcome 44 = .ok (.aload_n 0, 1) := by decide +kernel
theorem dX10_outcome_45 : decode cX10_outcome 45 = .ok (.getfield 30, 3) := by decide +kernel
theorem dX10_outcome_48 : decode cX10_outcome 48 = .ok (.invokevirtual 181, 3) := by decide +kernel
theorem dX10_outcome_51 : decode cX10_outcome 51 = .ok (.ireturn, 1) := by decide +kernel
theorem dX10_outcome_52 : decode cX10_outcome 52 = .ok (.aload_n 0, 1) := by decide +kernel
theorem dX10_outcome_53 : decode cX10_outcome 53 = .ok (.getfield 30, 3) := by decide +kernel
theorem dX10_outcome_56 : decode cX10_outcome 56 = .ok (.invokevirtual 178, 3) := by decide +kernel
theorem dX10_outcome_59 : decode cX10_outcome 59 = .ok (.ireturn, 1) := by decide +kernel
theorem dX10_has_0 : decode cX10_has 0 = .ok (.iload_n 0, 1) := by decide +kernel
theorem dX10_has_1 : decode cX10_has 1 = .ok (.iload_n 1, 1) := by decide +kernel
theorem dX10_has_2 : decode cX10_has 2 = .ok (.if_icmp .ne 13, 3) := by decide +kernel
theorem dX10_has_5 : decode cX10_has 5 = .ok (.iload_n 0, 1) := by decide +kernel
theorem dX10_has_6 : decode cX10_has 6 = .ok (.ifCond .ne 7, 3) := by decide +kernel
theorem dX10_has_9 : decode cX10_has 9 = .ok (.iload_n 2, 1) := by decide +kernel
theorem dX10_has_10 : decode cX10_has 10 = .ok (.goto 4, 3) := by decide +kernel
theorem dX10_has_13 : decode cX10_has 13 = .ok (.iload_n 3, 1) := by decide +kernel
theorem dX10_has_14 : decode cX10_has 14 = .ok (.ireturn, 1) := by decide +kernel
theorem dX10_has_15 : decode cX10_has 15 = .ok (.iload_n 0, 1) := by decide +kernel
theorem dX10_has_16 : decode cX10_has 16 = .ok (.ifCond .ne 7, 3) := by decide +kernel
theorem dX10_has_19 : decode cX10_has 19 = .ok (.iload_n 3, 1) := by decide +kernel
theorem dX10_has_20 : decode cX10_has 20 = .ok (.goto 6, 3) := by decide +kernel
theorem dX10_has_23 : decode cX10_has 23 = .ok (.iload_n 2, 1) := by decide +kernel
theorem dX10_has_24 : decode cX10_has 24 = .ok (.iconst 2, 1) := by decide +kernel
theorem dX10_has_25 : decode cX10_has 25 = .ok (.idiv, 1) := by decide +kernel
theorem dX10_has_26 : decode cX10_has 26 = .ok (.ireturn, 1) := by decide +kernel
theorem dX10_greatestDivisor_0 : decode cX10_greatestDivisor 0 = .ok (.lload_n 2, 1) := by decide +kernel
theorem dX10_greatestDivisor_1 : decode cX10_greatestDivisor 1 = .ok (.lstore 4, 2) := by decide +kernel
theorem dX10_greatestDivisor_3 : decode cX10_greatestDivisor 3 = .ok (.lload_n 0, 1) := by decide +kernel
theorem dX10_greatestDivisor_4 : decode cX10_greatestDivisor 4 = .ok (.lstore 6, 2) := by decide +kernel
theorem dX10_greatestDivisor_6 : decode cX10_greatestDivisor 6 = .ok (.iconst 0, 1) := by decide +kernel
theorem dX10_greatestDivisor_7 : decode cX10_greatestDivisor 7 = .ok (.istore 8, 2) := by decide +kernel
theorem dX10_greatestDivisor_9 : decode cX10_greatestDivisor 9 = .ok (.iload 8, 2) := by decide +kernel
theorem dX10_greatestDivisor_11 : decode cX10_greatestDivisor 11 = .ok (.bipush 100, 2) := by decide +kernel
theorem dX10_greatestDivisor_13 : decode cX10_greatestDivisor 13 = .ok (.if_icmp .ge 31, 3) := by decide +kernel
theorem dX10_greatestDivisor_16 : decode cX10_greatestDivisor 16 = .ok (.lload 6, 2) := by decide +kernel
theorem dX10_greatestDivisor_18 : decode cX10_greatestDivisor 18 = .ok (.lconst 0, 1) := by decide +kernel
theorem dX10_greatestDivisor_19 : decode cX10_greatestDivisor 19 = .ok (.lcmp, 1) := by decide +kernel
theorem dX10_greatestDivisor_20 : decode cX10_greatestDivisor 20 = .ok (.ifCond .eq 24, 3) := by decide +kernel
theorem dX10_greatestDivisor_23 : decode cX10_greatestDivisor 23 = .ok (.lload 4, 2) := by decide +kernel
theorem dX10_greatestDivisor_25 : decode cX10_greatestDivisor 25 = .ok (.lload 6, 2) := by decide +kernel
theorem dX10_greatestDivisor_27 : decode cX10_greatestDivisor 27 = .ok (.lrem, 1) := by decide +kernel
theorem dX10_greatestDivisor_28 : decode cX10_greatestDivisor 28 = .ok (.lstore 9, 2) := by decide +kernel
theorem dX10_greatestDivisor_30 : decode cX10_greatestDivisor 30 = .ok (.lload 6, 2) := by decide +kernel
theorem dX10_greatestDivisor_32 : decode cX10_greatestDivisor 32 = .ok (.lstore 4, 2) := by decide +kernel
theorem dX10_greatestDivisor_34 : decode cX10_greatestDivisor 34 = .ok (.lload 9, 2) := by decide +kernel
theorem dX10_greatestDivisor_36 : decode cX10_greatestDivisor 36 = .ok (.lstore 6, 2) := by decide +kernel
theorem dX10_greatestDivisor_38 : decode cX10_greatestDivisor 38 = .ok (.iinc 8 1, 3) := by decide +kernel
theorem dX10_greatestDivisor_41 : decode cX10_greatestDivisor 41 = .ok (.goto (-32), 3) := by decide +kernel
theorem dX10_greatestDivisor_44 : decode cX10_greatestDivisor 44 = .ok (.lload 4, 2) := by decide +kernel
theorem dX10_greatestDivisor_46 : decode cX10_greatestDivisor 46 = .ok (.lconst 0, 1) := by decide +kernel
theorem dX10_greatestDivisor_47 : decode cX10_greatestDivisor 47 = .ok (.lcmp, 1) := by decide +kernel
theorem dX10_greatestDivisor_48 : decode cX10_greatestDivisor 48 = .ok (.ifCond .le 8, 3) := by decide +kernel
theorem dX10_greatestDivisor_51 : decode cX10_greatestDivisor 51 = .ok (.lload 4, 2) := by decide +kernel
theorem dX10_greatestDivisor_53 : decode cX10_greatestDivisor 53 = .ok (.goto 4, 3) := by decide +kernel
theorem dX10_greatestDivisor_56 : decode cX10_greatestDivisor 56 = .ok (.lconst 1, 1) := by decide +kernel
theorem dX10_greatestDivisor_57 : decode cX10_greatestDivisor 57 = .ok (.lreturn, 1) := by decide +kernel
theorem dX11_thrown_0 : decode cX11_thrown 0 = .ok (.aload_n 0, 1) := by decide +kernel
theorem dX11_thrown_1 : decode cX11_thrown 1 = .ok (.getfield 3, 3) := by decide +kernel
theorem dX11_thrown_4 : decode cX11_thrown 4 = .ok (.ireturn, 1) := by decide +kernel
theorem dX11_may_0 : decode cX11_may 0 = .ok (.iload_n 1, 1) := by decide +kernel
theorem dX11_may_1 : decode cX11_may 1 = .ok (.ifCond .ne 25, 3) := by decide +kernel
theorem dX11_may_4 : decode cX11_may 4 = .ok (.aload_n 0, 1) := by decide +kernel
theorem dX11_may_5 : decode cX11_may 5 = .ok (.getfield 3, 3) := by decide +kernel
theorem dX11_may_8 : decode cX11_may 8 = .ok (.ifCond .ne 18, 3) := by decide +kernel
theorem dX11_may_11 : decode cX11_may 11 = .ok (.aload_n 0, 1) := by decide +kernel
theorem dX11_may_12 : decode cX11_may 12 = .ok (.iload_n 2, 1) := by decide +kernel
theorem dX11_may_13 : decode cX11_may 13 = .ok (.putfield 3, 3) := by decide +kernel
theorem dX11_may_16 : decode cX11_may 16 = .ok (.aload_n 0, 1) := by decide +kernel
theorem dX11_may_17 : decode cX11_may 17 = .ok (.getfield 7, 3) := by decide +kernel
theorem dX11_may_20 : decode cX11_may 20 = .ok (.iload_n 3, 1) := by decide +kernel
theorem dX11_may_21 : decode cX11_may 21 = .ok (.dup2, 1) := by decide +kernel
theorem dX11_may_22 : decode cX11_may 22 = .ok (.iaload, 1) := by decide +kernel
theorem dX11_may_23 : decode cX11_may 23 = .ok (.iconst 1, 1) := by decide +kernel
theorem dX11_may_24 : decode cX11_may 24 = .ok (.iadd, 1) := by decide +kernel
theorem dX11_may_25 : decode cX11_may 25 = .ok (.iastore, 1) := by decide +kernel
theorem dX11_may_26 : decode cX11_may 26 = .ok (.aload_n 0, 1) := by decide +kernel
theorem dX11_may_27 : decode cX11_may 27 = .ok (.getfield 3, 3) := by decide +kernel
theorem dX11_may_30 : decode cX11_may 30 = .ok (.ifCond .ne 7, 3) := by decide +kernel
theorem dX11_may_33 : decode cX11_may 33 = .ok (.iconst 1, 1) := by decide +kernel
theorem dX11_may_34 : decode cX11_may 34 = .ok (.goto 4, 3) := by decide +kernel
theorem dX11_may_37 : decode cX11_may 37 = .ok (.iconst 0, 1) := by decide +kernel
theorem dX11_may_38 : decode cX11_may 38 = .ok (.ireturn, 1) := by decide +kernel
theorem dX11_within_0 : decode cX11_within 0 = .ok (.iload_n 0, 1) := by decide +kernel
theorem dX11_within_1 : decode cX11_within 1 = .ok (.iload_n 1, 1) := by decide +kernel
theorem dX11_within_2 : decode cX11_within 2 = .ok (.if_icmp .lt 12, 3) := by decide +kernel
theorem dX11_within_5 : decode cX11_within 5 = .ok (.iload_n 0, 1) := by decide +kernel
theorem dX11_within_6 : decode cX11_within 6 = .ok (.iload_n 2, 1) := by decide +kernel
theorem dX11_within_7 : decode cX11_within 7 = .ok (.if_icmp .gt 7, 3) := by decide +kernel
theorem dX11_within_10 : decode cX11_within 10 = .ok (.iconst 1, 1) := by decide +kernel
theorem dX11_within_11 : decode cX11_within 11 = .ok (.goto 4, 3) := by decide +kernel
theorem dX11_within_14 : decode cX11_within 14 = .ok (.iconst 0, 1) := by decide +kernel
theorem dX11_within_15 : decode cX11_within 15 = .ok (.ireturn, 1) := by decide +kernel
theorem dX11_init_0 : decode cX11_init 0 = .ok (.aload_n 0, 1) := by decide +kernel
theorem dX11_init_1 : decode cX11_init 1 = .ok (.invokespecial 11, 3) := by decide +kernel
theorem dX11_init_4 : decode cX11_init 4 = .ok (.aload_n 0, 1) := by decide +kernel
theorem dX11_init_5 : decode cX11_init 5 = .ok (.iconst 2, 1) := by decide +kernel
theorem dX11_init_6 : decode cX11_init 6 = .ok (.newarray .int, 2) := by decide +kernel
theorem dX11_init_8 : decode cX11_init 8 = .ok (.putfield 7, 3) := by decide +kernel
theorem dX11_init_11 : decode cX11_init 11 = .ok (.aload_n 0, 1) := by decide +kernel
theorem dX11_init_12 : decode cX11_init 12 = .ok (.iconst (-1), 1) := by decide +kernel
theorem dX11_init_13 : decode cX11_init 13 = .ok (.putfield 17, 3) := by decide +kernel
theorem dX11_init_16 : decode cX11_init 16 = .ok (.aload_n 0, 1) := by decide +kernel
theorem dX11_init_17 : decode cX11_init 17 = .ok (.sipush 600, 3) := by decide +kernel
theorem dX11_init_20 : decode cX11_init 20 = .ok (.newarray .int, 2) := by decide +kernel
theorem dX11_init_22 : decode cX11_init 22 = .ok (.putfield 20, 3) := by decide +kernel
theorem dX11_init_25 : decode cX11_init 25 = .ok (.aload_n 0, 1) := by decide +kernel
theorem dX11_init_26 : decode cX11_init 26 = .ok (.bipush 16, 2) := by decide +kernel
theorem dX11_init_28 : decode cX11_init 28 = .ok (.newarray .int, 2) := by decide +kernel
theorem dX11_init_30 : decode cX11_init 30 = .ok (.putfield 23, 3) := by decide +kernel
theorem dX11_init_33 : decode cX11_init 33 = .ok (.aload_n 0, 1) := by decide +kernel
theorem dX11_init_34 : decode cX11_init 34 = .ok (.bipush 12, 2) := by decide +kernel
theorem dX11_init_36 : decode cX11_init 36 = .ok (.newarray .int, 2) := by decide +kernel
theorem dX11_init_38 : decode cX11_init 38 = .ok (.putfield 26, 3) := by decide +kernel
theorem dX11_init_41 : decode cX11_init 41 = .ok (.aload_n 0, 1) := by decide +kernel
theorem dX11_init_42 : decode cX11_init 42 = .ok (.bipush 6, 2) := by decide +kernel
theorem dX11_init_44 : decode cX11_init 44 = .ok (.newarray .int, 2) := by decide +kernel
theorem dX11_init_46 : decode cX11_init 46 = .ok (.putfield 29, 3) := by decide +kernel
theorem dX11_init_49 : decode cX11_init 49 = .ok (.aload_n 0, 1) := by decide +kernel
theorem dX11_init_50 : decode cX11_init 50 = .ok (.bipush 6, 2) := by decide +kernel
theorem dX11_init_52 : decode cX11_init 52 = .ok (.newarray .int, 2) := by decide +kernel
theorem dX11_init_54 : decode cX11_init 54 = .ok (.putfield 32, 3) := by decide +kernel
theorem dX11_init_57 : decode cX11_init 57 = .ok (.aload_n 0, 1) := by decide +kernel
theorem dX11_init_58 : decode cX11_init 58 = .ok (.bipush 16, 2) := by decide +kernel
theorem dX11_init_60 : decode cX11_init 60 = .ok (.newarray .int, 2) := by decide +kernel
theorem dX11_init_62 : decode cX11_init 62 = .ok (.putfield 35, 3) := by decide +kernel
theorem dX11_init_65 : decode cX11_init 65 = .ok (.aload_n 0, 1) := by decide +kernel
theorem dX11_init_66 : decode cX11_init 66 = .ok (.bipush 12, 2) := by decide +kernel
theorem dX11_init_68 : decode cX11_init 68 = .ok (.newarray .int, 2) := by decide +kernel
theorem dX11_init_70 : decode cX11_init 70 = .ok (.putfield 38, 3) := by decide +kernel
theorem dX11_init_73 : decode cX11_init 73 = .ok (.aload_n 0, 1) := by decide +kernel
theorem dX11_init_74 : decode cX11_init 74 = .ok (.bipush 6, 2) := by decide +kernel
theorem dX11_init_76 : decode cX11_init 76 = .ok (.newarray .int, 2) := by decide +kernel
theorem dX11_init_78 : decode cX11_init 78 = .ok (.putfield 41, 3) := by decide +kernel
theorem dX11_init_81 : decode cX11_init 81 = .ok (.aload_n 0, 1) := by decide +kernel
theorem dX11_init_82 : decode cX11_init 82 = .ok (.bipush 6, 2) := by decide +kernel
theorem dX11_init_84 : decode cX11_init 84 = .ok (.newarray .int, 2) := by decide +kernel
theorem dX11_init_86 : decode cX11_init 86 = .ok (.putfield 44, 3) := by decide +kernel
theorem dX11_init_89 : decode cX11_init 89 = .ok (.aload_n 0, 1) := by decide +kernel
theorem dX11_init_90 : decode cX11_init 90 = .ok (.sipush 150, 3) := by decide +kernel
theorem dX11_init_93 : decode cX11_init 93 = .ok (.newarray .int, 2) := by decide +kernel
theorem dX11_init_95 : decode cX11_init 95 = .ok (.putfield 47, 3) := by decide +kernel
theorem dX11_init_98 : decode cX11_init 98 = .ok (.aload_n 0, 1) := by decide +kernel
theorem dX11_init_99 : decode cX11_init 99 = .ok (.sipush 150, 3) := by decide +kernel
theorem dX11_init_102 : decode cX11_init 102 = .ok (.newarray .int, 2) := by decide +kernel
theorem dX11_init_104 : decode cX11_init 104 = .ok (.putfield 50, 3) := by decide +kernel
theorem dX11_init_107 : decode cX11_init 107 = .ok (.aload_n 0, 1) := by decide +kernel
theorem dX11_init_108 : decode cX11_init 108 = .ok (.sipush 150, 3) := by decide +kernel
theorem dX11_init_111 : decode cX11_init 111 = .ok (.newarray .int, 2) := by decide +kernel
theorem dX11_init_113 : decode cX11_init 113 = .ok (.putfield 53, 3) := by decide +kernel
theorem dX11_init_116 : decode cX11_init 116 = .ok (.aload_n 0, 1) := by decide +kernel
theorem dX11_init_117 : decode cX11_init 117 = .ok (.sipush 150, 3) := by decide +kernel
theorem dX11_init_120 : decode cX11_init 120 = .ok (.newarray .int, 2) := by decide +kernel
theorem dX11_init_122 : decode cX11_init 122 = .ok (.putfield 56, 3) := by decide +kernel
theorem dX11_init_125 : decode cX11_init 125 = .ok (.aload_n 0, 1) := by decide +kernel
theorem dX11_init_126 : decode cX11_init 126 = .ok (.sipush 150, 3) := by decide +kernel
theorem dX11_init_129 : decode cX11_init 129 = .ok (.newarray .int, 2) := by decide +kernel
