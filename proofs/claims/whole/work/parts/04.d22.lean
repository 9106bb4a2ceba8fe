theorem dX11_findHatted_179 : decode cX11_findHatted 179 = .ok (.getfield 95, 3) := by decide +kernel
theorem dX11_findHatted_182 : decode cX11_findHatted 182 = .ok (.iload_n 3, 1) := by decide +kernel
theorem dX11_findHatted_183 : decode cX11_findHatted 183 = .ok (.iload 4, 2) := by decide +kernel
theorem dX11_findHatted_185 : decode cX11_findHatted 185 = .ok (.iastore, 1) := by decide +kernel
theorem dX11_findHatted_186 : decode cX11_findHatted 186 = .ok (.iinc 4 (-1), 3) := by decide +kernel
theorem dX11_findHatted_189 : decode cX11_findHatted 189 = .ok (.goto (-108), 3) := by decide +kernel
theorem dX11_findHatted_192 : decode cX11_findHatted 192 = .ok (.aload_n 0, 1) := by decide +kernel
theorem dX11_findHatted_193 : decode cX11_findHatted 193 = .ok (.getfield 95, 3) := by decide +kernel
theorem dX11_findHatted_196 : decode cX11_findHatted 196 = .ok (.iload_n 3, 1) := by decide +kernel
theorem dX11_findHatted_197 : decode cX11_findHatted 197 = .ok (.iaload, 1) := by decide +kernel
theorem dX11_findHatted_198 : decode cX11_findHatted 198 = .ok (.iconst (-1), 1) := by decide +kernel
theorem dX11_findHatted_199 : decode cX11_findHatted 199 = .ok (.if_icmp .eq 14, 3) := by decide +kernel
theorem dX11_findHatted_202 : decode cX11_findHatted 202 = .ok (.iload_n 2, 1) := by decide +kernel
theorem dX11_findHatted_203 : decode cX11_findHatted 203 = .ok (.iconst 1, 1) := by decide +kernel
theorem dX11_findHatted_204 : decode cX11_findHatted 204 = .ok (.aload_n 0, 1) := by decide +kernel
theorem dX11_findHatted_205 : decode cX11_findHatted 205 = .ok (.getfield 95, 3) := by decide +kernel
theorem dX11_findHatted_208 : decode cX11_findHatted 208 = .ok (.iload_n 3, 1) := by decide +kernel
theorem dX11_findHatted_209 : decode cX11_findHatted 209 = .ok (.iaload, 1) := by decide +kernel
theorem dX11_findHatted_210 : decode cX11_findHatted 210 = .ok (.ishl, 1) := by decide +kernel
theorem dX11_findHatted_211 : decode cX11_findHatted 211 = .ok (.ior, 1) := by decide +kernel
theorem dX11_findHatted_212 : decode cX11_findHatted 212 = .ok (.istore_n 2, 1) := by decide +kernel
theorem dX11_findHatted_213 : decode cX11_findHatted 213 = .ok (.iinc 3 1, 3) := by decide +kernel
theorem dX11_findHatted_216 : decode cX11_findHatted 216 = .ok (.goto (-158), 3) := by decide +kernel
theorem dX11_findHatted_219 : decode cX11_findHatted 219 = .ok (.return_, 1) := by decide +kernel
theorem dX11_hatted_0 : decode cX11_hatted 0 = .ok (.aload_n 0, 1) := by decide +kernel
theorem dX11_hatted_1 : decode cX11_hatted 1 = .ok (.iconst 0, 1) := by decide +kernel
theorem dX11_hatted_2 : decode cX11_hatted 2 = .ok (.putfield 3, 3) := by decide +kernel
theorem dX11_hatted_5 : decode cX11_hatted 5 = .ok (.aload_n 0, 1) := by decide +kernel
theorem dX11_hatted_6 : decode cX11_hatted 6 = .ok (.iload_n 1, 1) := by decide +kernel
theorem dX11_hatted_7 : decode cX11_hatted 7 = .ok (.iconst 1, 1) := by decide +kernel
theorem dX11_hatted_8 : decode cX11_hatted 8 = .ok (.invokevirtual 401, 3) := by decide +kernel
theorem dX11_hatted_11 : decode cX11_hatted 11 = .ok (.ifCond .ne 5, 3) := by decide +kernel
theorem dX11_hatted_14 : decode cX11_hatted 14 = .ok (.iconst 0, 1) := by decide +kernel
theorem dX11_hatted_15 : decode cX11_hatted 15 = .ok (.ireturn, 1) := by decide +kernel
theorem dX11_hatted_16 : decode cX11_hatted 16 = .ok (.aload_n 0, 1) := by decide +kernel
theorem dX11_hatted_17 : decode cX11_hatted 17 = .ok (.iload_n 1, 1) := by decide +kernel
theorem dX11_hatted_18 : decode cX11_hatted 18 = .ok (.invokevirtual 421, 3) := by decide +kernel
theorem dX11_hatted_21 : decode cX11_hatted 21 = .ok (.aload_n 0, 1) := by decide +kernel
theorem dX11_hatted_22 : decode cX11_hatted 22 = .ok (.getfield 92, 3) := by decide +kernel
theorem dX11_hatted_25 : decode cX11_hatted 25 = .ok (.iconst 0, 1) := by decide +kernel
theorem dX11_hatted_26 : decode cX11_hatted 26 = .ok (.iaload, 1) := by decide +kernel
theorem dX11_hatted_27 : decode cX11_hatted 27 = .ok (.ireturn, 1) := by decide +kernel
theorem dX11_given_0 : decode cX11_given 0 = .ok (.aload_n 0, 1) := by decide +kernel
theorem dX11_given_1 : decode cX11_given 1 = .ok (.iconst 0, 1) := by decide +kernel
theorem dX11_given_2 : decode cX11_given 2 = .ok (.putfield 3, 3) := by decide +kernel
theorem dX11_given_5 : decode cX11_given 5 = .ok (.aload_n 0, 1) := by decide +kernel
theorem dX11_given_6 : decode cX11_given 6 = .ok (.iload_n 1, 1) := by decide +kernel
theorem dX11_given_7 : decode cX11_given 7 = .ok (.iconst 1, 1) := by decide +kernel
theorem dX11_given_8 : decode cX11_given 8 = .ok (.invokevirtual 401, 3) := by decide +kernel
theorem dX11_given_11 : decode cX11_given 11 = .ok (.ifCond .eq 12, 3) := by decide +kernel
theorem dX11_given_14 : decode cX11_given 14 = .ok (.aload_n 0, 1) := by decide +kernel
theorem dX11_given_15 : decode cX11_given 15 = .ok (.iload_n 2, 1) := by decide +kernel
theorem dX11_given_16 : decode cX11_given 16 = .ok (.iconst 1, 1) := by decide +kernel
theorem dX11_given_17 : decode cX11_given 17 = .ok (.invokevirtual 404, 3) := by decide +kernel
theorem dX11_given_20 : decode cX11_given 20 = .ok (.ifCond .ne 5, 3) := by decide +kernel
theorem dX11_given_23 : decode cX11_given 23 = .ok (.iconst 0, 1) := by decide +kernel
theorem dX11_given_24 : decode cX11_given 24 = .ok (.ireturn, 1) := by decide +kernel
theorem dX11_given_25 : decode cX11_given 25 = .ok (.aload_n 0, 1) := by decide +kernel
theorem dX11_given_26 : decode cX11_given 26 = .ok (.iload_n 1, 1) := by decide +kernel
theorem dX11_given_27 : decode cX11_given 27 = .ok (.invokevirtual 421, 3) := by decide +kernel
theorem dX11_given_30 : decode cX11_given 30 = .ok (.aload_n 0, 1) := by decide +kernel
theorem dX11_given_31 : decode cX11_given 31 = .ok (.getfield 95, 3) := by decide +kernel
theorem dX11_given_34 : decode cX11_given 34 = .ok (.iload_n 2, 1) := by decide +kernel
theorem dX11_given_35 : decode cX11_given 35 = .ok (.iaload, 1) := by decide +kernel
theorem dX11_given_36 : decode cX11_given 36 = .ok (.ireturn, 1) := by decide +kernel
theorem dX11_line_0 : decode cX11_line 0 = .ok (.aload_n 0, 1) := by decide +kernel
theorem dX11_line_1 : decode cX11_line 1 = .ok (.iconst 0, 1) := by decide +kernel
theorem dX11_line_2 : decode cX11_line 2 = .ok (.putfield 3, 3) := by decide +kernel
theorem dX11_line_5 : decode cX11_line 5 = .ok (.aload_n 0, 1) := by decide +kernel
theorem dX11_line_6 : decode cX11_line 6 = .ok (.iload_n 1, 1) := by decide +kernel
theorem dX11_line_7 : decode cX11_line 7 = .ok (.iconst 1, 1) := by decide +kernel
theorem dX11_line_8 : decode cX11_line 8 = .ok (.invokevirtual 404, 3) := by decide +kernel
theorem dX11_line_11 : decode cX11_line 11 = .ok (.ifCond .eq 20, 3) := by decide +kernel
theorem dX11_line_14 : decode cX11_line 14 = .ok (.aload_n 0, 1) := by decide +kernel
theorem dX11_line_15 : decode cX11_line 15 = .ok (.iload_n 2, 1) := by decide +kernel
theorem dX11_line_16 : decode cX11_line 16 = .ok (.iconst 0, 1) := by decide +kernel
theorem dX11_line_17 : decode cX11_line 17 = .ok (.ldc_w 424, 3) := by decide +kernel
theorem dX11_line_20 : decode cX11_line 20 = .ok (.invokestatic 383, 3) := by decide +kernel
theorem dX11_line_23 : decode cX11_line 23 = .ok (.iconst 2, 1) := by decide +kernel
theorem dX11_line_24 : decode cX11_line 24 = .ok (.iconst 1, 1) := by decide +kernel
theorem dX11_line_25 : decode cX11_line 25 = .ok (.invokevirtual 216, 3) := by decide +kernel
theorem dX11_line_28 : decode cX11_line 28 = .ok (.ifCond .ne 5, 3) := by decide +kernel
theorem dX11_line_31 : decode cX11_line 31 = .ok (.iconst 0, 1) := by decide +kernel
theorem dX11_line_32 : decode cX11_line 32 = .ok (.ireturn, 1) := by decide +kernel
theorem dX11_line_33 : decode cX11_line 33 = .ok (.iload_n 1, 1) := by decide +kernel
theorem dX11_line_34 : decode cX11_line 34 = .ok (.istore_n 3, 1) := by decide +kernel
theorem dX11_line_35 : decode cX11_line 35 = .ok (.iconst 0, 1) := by decide +kernel
theorem dX11_line_36 : decode cX11_line 36 = .ok (.istore 4, 2) := by decide +kernel
theorem dX11_line_38 : decode cX11_line 38 = .ok (.iload 4, 2) := by decide +kernel
theorem dX11_line_40 : decode cX11_line 40 = .ok (.iload_n 2, 1) := by decide +kernel
theorem dX11_line_41 : decode cX11_line 41 = .ok (.if_icmp .ge 21, 3) := by decide +kernel
theorem dX11_line_44 : decode cX11_line 44 = .ok (.iload_n 3, 1) := by decide +kernel
theorem dX11_line_45 : decode cX11_line 45 = .ok (.iconst (-1), 1) := by decide +kernel
theorem dX11_line_46 : decode cX11_line 46 = .ok (.if_icmp .eq 16, 3) := by decide +kernel
theorem dX11_line_49 : decode cX11_line 49 = .ok (.aload_n 0, 1) := by decide +kernel
theorem dX11_line_50 : decode cX11_line 50 = .ok (.getfield 44, 3) := by decide +kernel
theorem dX11_line_53 : decode cX11_line 53 = .ok (.iload_n 3, 1) := by decide +kernel
theorem dX11_line_54 : decode cX11_line 54 = .ok (.iaload, 1) := by decide +kernel
theorem dX11_line_55 : decode cX11_line 55 = .ok (.istore_n 3, 1) := by decide +kernel
theorem dX11_line_56 : decode cX11_line 56 = .ok (.iinc 4 1, 3) := by decide +kernel
theorem dX11_line_59 : decode cX11_line 59 = .ok (.goto (-21), 3) := by decide +kernel
theorem dX11_line_62 : decode cX11_line 62 = .ok (.iload_n 3, 1) := by decide +kernel
theorem dX11_line_63 : decode cX11_line 63 = .ok (.ireturn, 1) := by decide +kernel
theorem dX11_stepsTo_0 : decode cX11_stepsTo 0 = .ok (.iload_n 1, 1) := by decide +kernel
theorem dX11_stepsTo_1 : decode cX11_stepsTo 1 = .ok (.istore_n 3, 1) := by decide +kernel
theorem dX11_stepsTo_2 : decode cX11_stepsTo 2 = .ok (.iconst 0, 1) := by decide +kernel
theorem dX11_stepsTo_3 : decode cX11_stepsTo 3 = .ok (.istore 4, 2) := by decide +kernel
theorem dX11_stepsTo_5 : decode cX11_stepsTo 5 = .ok (.iload 4, 2) := by decide +kernel
theorem dX11_stepsTo_7 : decode cX11_stepsTo 7 = .ok (.bipush 6, 2) := by decide +kernel
theorem dX11_stepsTo_9 : decode cX11_stepsTo 9 = .ok (.if_icmp .ge 29, 3) := by decide +kernel
theorem dX11_stepsTo_12 : decode cX11_stepsTo 12 = .ok (.iload_n 3, 1) := by decide +kernel
theorem dX11_stepsTo_13 : decode cX11_stepsTo 13 = .ok (.iconst (-1), 1) := by decide +kernel
theorem dX11_stepsTo_14 : decode cX11_stepsTo 14 = .ok (.if_icmp .eq 24, 3) := by decide +kernel
theorem dX11_stepsTo_17 : decode cX11_stepsTo 17 = .ok (.iload_n 3, 1) := by decide +kernel
theorem dX11_stepsTo_18 : decode cX11_stepsTo 18 = .ok (.iload_n 2, 1) := by decide +kernel
theorem dX11_stepsTo_19 : decode cX11_stepsTo 19 = .ok (.if_icmp .ne 6, 3) := by decide +kernel
theorem dX11_stepsTo_22 : decode cX11_stepsTo 22 = .ok (.iload 4, 2) := by decide +kernel
theorem dX11_stepsTo_24 : decode cX11_stepsTo 24 = .ok (.ireturn, 1) := by decide +kernel
theorem dX11_stepsTo_25 : decode cX11_stepsTo 25 = .ok (.aload_n 0, 1) := by decide +kernel
theorem dX11_stepsTo_26 : decode cX11_stepsTo 26 = .ok (.getfield 44, 3) := by decide +kernel
theorem dX11_stepsTo_29 : decode cX11_stepsTo 29 = .ok (.iload_n 3, 1) := by decide +kernel
theorem dX11_stepsTo_30 : decode cX11_stepsTo 30 = .ok (.iaload, 1) := by decide +kernel
theorem dX11_stepsTo_31 : decode cX11_stepsTo 31 = .ok (.istore_n 3, 1) := by decide +kernel
theorem dX11_stepsTo_32 : decode cX11_stepsTo 32 = .ok (.iinc 4 1, 3) := by decide +kernel
theorem dX11_stepsTo_35 : decode cX11_stepsTo 35 = .ok (.goto (-30), 3) := by decide +kernel
theorem dX11_stepsTo_38 : decode cX11_stepsTo 38 = .ok (.iconst (-1), 1) := by decide +kernel
theorem dX11_stepsTo_39 : decode cX11_stepsTo 39 = .ok (.ireturn, 1) := by decide +kernel
theorem dX11_meets_0 : decode cX11_meets 0 = .ok (.aload_n 0, 1) := by decide +kernel
theorem dX11_meets_1 : decode cX11_meets 1 = .ok (.iconst 0, 1) := by decide +kernel
theorem dX11_meets_2 : decode cX11_meets 2 = .ok (.putfield 3, 3) := by decide +kernel
theorem dX11_meets_5 : decode cX11_meets 5 = .ok (.aload_n 0, 1) := by decide +kernel
theorem dX11_meets_6 : decode cX11_meets 6 = .ok (.iload_n 1, 1) := by decide +kernel
theorem dX11_meets_7 : decode cX11_meets 7 = .ok (.iconst 1, 1) := by decide +kernel
theorem dX11_meets_8 : decode cX11_meets 8 = .ok (.invokevirtual 404, 3) := by decide +kernel
theorem dX11_meets_11 : decode cX11_meets 11 = .ok (.ifCond .eq 27, 3) := by decide +kernel
theorem dX11_meets_14 : decode cX11_meets 14 = .ok (.aload_n 0, 1) := by decide +kernel
theorem dX11_meets_15 : decode cX11_meets 15 = .ok (.iload_n 2, 1) := by decide +kernel
theorem dX11_meets_16 : decode cX11_meets 16 = .ok (.iconst 1, 1) := by decide +kernel
theorem dX11_meets_17 : decode cX11_meets 17 = .ok (.invokevirtual 404, 3) := by decide +kernel
theorem dX11_meets_20 : decode cX11_meets 20 = .ok (.ifCond .eq 18, 3) := by decide +kernel
theorem dX11_meets_23 : decode cX11_meets 23 = .ok (.aload_n 0, 1) := by decide +kernel
theorem dX11_meets_24 : decode cX11_meets 24 = .ok (.iload_n 3, 1) := by decide +kernel
theorem dX11_meets_25 : decode cX11_meets 25 = .ok (.iconst 0, 1) := by decide +kernel
theorem dX11_meets_26 : decode cX11_meets 26 = .ok (.iconst 1, 1) := by decide +kernel
theorem dX11_meets_27 : decode cX11_meets 27 = .ok (.invokestatic 383, 3) := by decide +kernel
theorem dX11_meets_30 : decode cX11_meets 30 = .ok (.iconst 2, 1) := by decide +kernel
theorem dX11_meets_31 : decode cX11_meets 31 = .ok (.iconst 1, 1) := by decide +kernel
theorem dX11_meets_32 : decode cX11_meets 32 = .ok (.invokevirtual 216, 3) := by decide +kernel
theorem dX11_meets_35 : decode cX11_meets 35 = .ok (.ifCond .ne 5, 3) := by decide +kernel
theorem dX11_meets_38 : decode cX11_meets 38 = .ok (.iconst 0, 1) := by decide +kernel
theorem dX11_meets_39 : decode cX11_meets 39 = .ok (.ireturn, 1) := by decide +kernel
theorem dX11_meets_40 : decode cX11_meets 40 = .ok (.iconst (-1), 1) := by decide +kernel
theorem dX11_meets_41 : decode cX11_meets 41 = .ok (.istore 4, 2) := by decide +kernel
theorem dX11_meets_43 : decode cX11_meets 43 = .ok (.iconst (-1), 1) := by decide +kernel
theorem dX11_meets_44 : decode cX11_meets 44 = .ok (.istore 5, 2) := by decide +kernel
theorem dX11_meets_46 : decode cX11_meets 46 = .ok (.iconst 0, 1) := by decide +kernel
theorem dX11_meets_47 : decode cX11_meets 47 = .ok (.istore 6, 2) := by decide +kernel
theorem dX11_meets_49 : decode cX11_meets 49 = .ok (.iload 6, 2) := by decide +kernel
theorem dX11_meets_51 : decode cX11_meets 51 = .ok (.aload_n 0, 1) := by decide +kernel
theorem dX11_meets_52 : decode cX11_meets 52 = .ok (.getfield 181, 3) := by decide +kernel
theorem dX11_meets_55 : decode cX11_meets 55 = .ok (.if_icmp .ge 69, 3) := by decide +kernel
theorem dX11_meets_58 : decode cX11_meets 58 = .ok (.aload_n 0, 1) := by decide +kernel
theorem dX11_meets_59 : decode cX11_meets 59 = .ok (.iload_n 1, 1) := by decide +kernel
theorem dX11_meets_60 : decode cX11_meets 60 = .ok (.iload 6, 2) := by decide +kernel
theorem dX11_meets_62 : decode cX11_meets 62 = .ok (.invokevirtual 425, 3) := by decide +kernel
theorem dX11_meets_65 : decode cX11_meets 65 = .ok (.istore 7, 2) := by decide +kernel
theorem dX11_meets_67 : decode cX11_meets 67 = .ok (.aload_n 0, 1) := by decide +kernel
theorem dX11_meets_68 : decode cX11_meets 68 = .ok (.iload_n 2, 1) := by decide +kernel
theorem dX11_meets_69 : decode cX11_meets 69 = .ok (.iload 6, 2) := by decide +kernel
theorem dX11_meets_71 : decode cX11_meets 71 = .ok (.invokevirtual 425, 3) := by decide +kernel
theorem dX11_meets_74 : decode cX11_meets 74 = .ok (.istore 8, 2) := by decide +kernel
theorem dX11_meets_76 : decode cX11_meets 76 = .ok (.iload 7, 2) := by decide +kernel
theorem dX11_meets_78 : decode cX11_meets 78 = .ok (.iconst (-1), 1) := by decide +kernel
theorem dX11_meets_79 : decode cX11_meets 79 = .ok (.if_icmp .eq 39, 3) := by decide +kernel
theorem dX11_meets_82 : decode cX11_meets 82 = .ok (.iload 8, 2) := by decide +kernel
theorem dX11_meets_84 : decode cX11_meets 84 = .ok (.iconst (-1), 1) := by decide +kernel
theorem dX11_meets_85 : decode cX11_meets 85 = .ok (.if_icmp .eq 33, 3) := by decide +kernel
theorem dX11_meets_88 : decode cX11_meets 88 = .ok (.iload 4, 2) := by decide +kernel
theorem dX11_meets_90 : decode cX11_meets 90 = .ok (.iconst (-1), 1) := by decide +kernel
theorem dX11_meets_91 : decode cX11_meets 91 = .ok (.if_icmp .eq 16, 3) := by decide +kernel
theorem dX11_meets_94 : decode cX11_meets 94 = .ok (.iload 7, 2) := by decide +kernel
theorem dX11_meets_96 : decode cX11_meets 96 = .ok (.iload 8, 2) := by decide +kernel
theorem dX11_meets_98 : decode cX11_meets 98 = .ok (.iadd, 1) := by decide +kernel
theorem dX11_meets_99 : decode cX11_meets 99 = .ok (.iload 5, 2) := by decide +kernel
theorem dX11_meets_101 : decode cX11_meets 101 = .ok (.if_icmp .lt 6, 3) := by decide +kernel
theorem dX11_meets_104 : decode cX11_meets 104 = .ok (.goto 14, 3) := by decide +kernel
theorem dX11_meets_107 : decode cX11_meets 107 = .ok (.iload 6, 2) := by decide +kernel
theorem dX11_meets_109 : decode cX11_meets 109 = .ok (.istore 4, 2) := by decide +kernel
theorem dX11_meets_111 : decode cX11_meets 111 = .ok (.iload 7, 2) := by decide +kernel
theorem dX11_meets_113 : decode cX11_meets 113 = .ok (.iload 8, 2) := by decide +kernel
theorem dX11_meets_115 : decode cX11_meets 115 = .ok (.iadd, 1) := by decide +kernel
theorem dX11_meets_116 : decode cX11_meets 116 = .ok (.istore 5, 2) := by decide +kernel
theorem dX11_meets_118 : decode cX11_meets 118 = .ok (.iinc 6 1, 3) := by decide +kernel
theorem dX11_meets_121 : decode cX11_meets 121 = .ok (.goto (-72), 3) := by decide +kernel
theorem dX11_meets_124 : decode cX11_meets 124 = .ok (.iload_n 3, 1) := by decide +kernel
theorem dX11_meets_125 : decode cX11_meets 125 = .ok (.ifCond .ne 8, 3) := by decide +kernel
theorem dX11_meets_128 : decode cX11_meets 128 = .ok (.iload 4, 2) := by decide +kernel
theorem dX11_meets_130 : decode cX11_meets 130 = .ok (.goto 5, 3) := by decide +kernel
theorem dX11_meets_133 : decode cX11_meets 133 = .ok (.iload 5, 2) := by decide +kernel
theorem dX11_meets_135 : decode cX11_meets 135 = .ok (.ireturn, 1) := by decide +kernel
theorem dX11_row_0 : decode cX11_row 0 = .ok (.aload_n 0, 1) := by decide +kernel
theorem dX11_row_1 : decode cX11_row 1 = .ok (.iconst 0, 1) := by decide +kernel
theorem dX11_row_2 : decode cX11_row 2 = .ok (.putfield 3, 3) := by decide +kernel
theorem dX11_row_5 : decode cX11_row 5 = .ok (.aload_n 0, 1) := by decide +kernel
theorem dX11_row_6 : decode cX11_row 6 = .ok (.iload_n 1, 1) := by decide +kernel
theorem dX11_row_7 : decode cX11_row 7 = .ok (.iconst 1, 1) := by decide +kernel
theorem dX11_row_8 : decode cX11_row 8 = .ok (.invokevirtual 404, 3) := by decide +kernel
theorem dX11_row_11 : decode cX11_row 11 = .ok (.ifCond .ne 5, 3) := by decide +kernel
theorem dX11_row_14 : decode cX11_row 14 = .ok (.iconst 0, 1) := by decide +kernel
theorem dX11_row_15 : decode cX11_row 15 = .ok (.ireturn, 1) := by decide +kernel
theorem dX11_row_16 : decode cX11_row 16 = .ok (.iconst 1, 1) := by decide +kernel
theorem dX11_row_17 : decode cX11_row 17 = .ok (.iload_n 1, 1) := by decide +kernel
theorem dX11_row_18 : decode cX11_row 18 = .ok (.ishl, 1) := by decide +kernel
theorem dX11_row_19 : decode cX11_row 19 = .ok (.istore_n 2, 1) := by decide +kernel
theorem dX11_row_20 : decode cX11_row 20 = .ok (.iconst 0, 1) := by decide +kernel
theorem dX11_row_21 : decode cX11_row 21 = .ok (.istore_n 3, 1) := by decide +kernel
theorem dX11_row_22 : decode cX11_row 22 = .ok (.aload_n 0, 1) := by decide +kernel
theorem dX11_row_23 : decode cX11_row 23 = .ok (.getfield 44, 3) := by decide +kernel
theorem dX11_row_26 : decode cX11_row 26 = .ok (.iload_n 1, 1) := by decide +kernel
theorem dX11_row_27 : decode cX11_row 27 = .ok (.iaload, 1) := by decide +kernel
theorem dX11_row_28 : decode cX11_row 28 = .ok (.istore 4, 2) := by decide +kernel
theorem dX11_row_30 : decode cX11_row 30 = .ok (.iload 4, 2) := by decide +kernel
theorem dX11_row_32 : decode cX11_row 32 = .ok (.iconst (-1), 1) := by decide +kernel
theorem dX11_row_33 : decode cX11_row 33 = .ok (.if_icmp .eq 34, 3) := by decide +kernel
theorem dX11_row_36 : decode cX11_row 36 = .ok (.iload_n 2, 1) := by decide +kernel
theorem dX11_row_37 : decode cX11_row 37 = .ok (.iload 4, 2) := by decide +kernel
theorem dX11_row_39 : decode cX11_row 39 = .ok (.ishr, 1) := by decide +kernel
theorem dX11_row_40 : decode cX11_row 40 = .ok (.iconst 1, 1) := by decide +kernel
theorem dX11_row_41 : decode cX11_row 41 = .ok (.iand, 1) := by decide +kernel
theorem dX11_row_42 : decode cX11_row 42 = .ok (.ifCond .ne 25, 3) := by decide +kernel
theorem dX11_row_45 : decode cX11_row 45 = .ok (.iload_n 2, 1) := by decide +kernel
theorem dX11_row_46 : decode cX11_row 46 = .ok (.iconst 1, 1) := by decide +kernel
theorem dX11_row_47 : decode cX11_row 47 = .ok (.iload 4, 2) := by decide +kernel
theorem dX11_row_49 : decode cX11_row 49 = .ok (.ishl, 1) := by decide +kernel
theorem dX11_row_50 : decode cX11_row 50 = .ok (.ior, 1) := by decide +kernel
theorem dX11_row_51 : decode cX11_row 51 = .ok (.istore_n 2, 1) := by decide +kernel
theorem dX11_row_52 : decode cX11_row 52 = .ok (.iinc 3 1, 3) := by decide +kernel
theorem dX11_row_55 : decode cX11_row 55 = .ok (.aload_n 0, 1) := by decide +kernel
theorem dX11_row_56 : decode cX11_row 56 = .ok (.getfield 44, 3) := by decide +kernel
theorem dX11_row_59 : decode cX11_row 59 = .ok (.iload 4, 2) := by decide +kernel
theorem dX11_row_61 : decode cX11_row 61 = .ok (.iaload, 1) := by decide +kernel
theorem dX11_row_62 : decode cX11_row 62 = .ok (.istore 4, 2) := by decide +kernel
theorem dX11_row_64 : decode cX11_row 64 = .ok (.goto (-34), 3) := by decide +kernel
theorem dX11_row_67 : decode cX11_row 67 = .ok (.iload_n 3, 1) := by decide +kernel
theorem dX11_row_68 : decode cX11_row 68 = .ok (.ireturn, 1) := by decide +kernel
theorem dX11_findPairs_0 : decode cX11_findPairs 0 = .ok (.iconst 0, 1) := by decide +kernel
theorem dX11_findPairs_1 : decode cX11_findPairs 1 = .ok (.istore_n 2, 1) := by decide +kernel
theorem dX11_findPairs_2 : decode cX11_findPairs 2 = .ok (.iload_n 2, 1) := by decide +kernel
theorem dX11_findPairs_3 : decode cX11_findPairs 3 = .ok (.aload_n 0, 1) := by decide +kernel
theorem dX11_findPairs_4 : decode cX11_findPairs 4 = .ok (.getfield 175, 3) := by decide +kernel
theorem dX11_findPairs_7 : decode cX11_findPairs 7 = .ok (.if_icmp .ge 130, 3) := by decide +kernel
theorem dX11_findPairs_10 : decode cX11_findPairs 10 = .ok (.iconst 0, 1) := by decide +kernel
theorem dX11_findPairs_11 : decode cX11_findPairs 11 = .ok (.istore_n 3, 1) := by decide +kernel
theorem dX11_findPairs_12 : decode cX11_findPairs 12 = .ok (.iload_n 3, 1) := by decide +kernel
theorem dX11_findPairs_13 : decode cX11_findPairs 13 = .ok (.aload_n 0, 1) := by decide +kernel
theorem dX11_findPairs_14 : decode cX11_findPairs 14 = .ok (.getfield 178, 3) := by decide +kernel
theorem dX11_findPairs_17 : decode cX11_findPairs 17 = .ok (.if_icmp .ge 114, 3) := by decide +kernel
theorem dX11_findPairs_20 : decode cX11_findPairs 20 = .ok (.aload_n 0, 1) := by decide +kernel
theorem dX11_findPairs_21 : decode cX11_findPairs 21 = .ok (.iload_n 1, 1) := by decide +kernel
theorem dX11_findPairs_22 : decode cX11_findPairs 22 = .ok (.iload_n 2, 1) := by decide +kernel
theorem dX11_findPairs_23 : decode cX11_findPairs 23 = .ok (.iload_n 3, 1) := by decide +kernel
theorem dX11_findPairs_24 : decode cX11_findPairs 24 = .ok (.bipush 24, 2) := by decide +kernel
theorem dX11_findPairs_26 : decode cX11_findPairs 26 = .ok (.invokevirtual 407, 3) := by decide +kernel
theorem dX11_findPairs_29 : decode cX11_findPairs 29 = .ok (.iconst 1, 1) := by decide +kernel
theorem dX11_findPairs_30 : decode cX11_findPairs 30 = .ok (.istore 4, 2) := by decide +kernel
theorem dX11_findPairs_32 : decode cX11_findPairs 32 = .ok (.iconst 0, 1) := by decide +kernel
theorem dX11_findPairs_33 : decode cX11_findPairs 33 = .ok (.istore 5, 2) := by decide +kernel
theorem dX11_findPairs_35 : decode cX11_findPairs 35 = .ok (.iload 5, 2) := by decide +kernel
theorem dX11_findPairs_37 : decode cX11_findPairs 37 = .ok (.bipush 24, 2) := by decide +kernel
theorem dX11_findPairs_39 : decode cX11_findPairs 39 = .ok (.if_icmp .ge 73, 3) := by decide +kernel
theorem dX11_findPairs_42 : decode cX11_findPairs 42 = .ok (.aload_n 0, 1) := by decide +kernel
theorem dX11_findPairs_43 : decode cX11_findPairs 43 = .ok (.getfield 101, 3) := by decide +kernel
theorem dX11_findPairs_46 : decode cX11_findPairs 46 = .ok (.bipush 24, 2) := by decide +kernel
theorem dX11_findPairs_48 : decode cX11_findPairs 48 = .ok (.bipush 6, 2) := by decide +kernel
theorem dX11_findPairs_50 : decode cX11_findPairs 50 = .ok (.iload_n 2, 1) := by decide +kernel
theorem dX11_findPairs_51 : decode cX11_findPairs 51 = .ok (.imul, 1) := by decide +kernel
theorem dX11_findPairs_52 : decode cX11_findPairs 52 = .ok (.iload_n 3, 1) := by decide +kernel
theorem dX11_findPairs_53 : decode cX11_findPairs 53 = .ok (.iadd, 1) := by decide +kernel
theorem dX11_findPairs_54 : decode cX11_findPairs 54 = .ok (.imul, 1) := by decide +kernel
theorem dX11_findPairs_55 : decode cX11_findPairs 55 = .ok (.iload 5, 2) := by decide +kernel
theorem dX11_findPairs_57 : decode cX11_findPairs 57 = .ok (.iadd, 1) := by decide +kernel
theorem dX11_findPairs_58 : decode cX11_findPairs 58 = .ok (.aload_n 0, 1) := by decide +kernel
theorem dX11_findPairs_59 : decode cX11_findPairs 59 = .ok (.getfield 89, 3) := by decide +kernel
theorem dX11_findPairs_62 : decode cX11_findPairs 62 = .ok (.iload 5, 2) := by decide +kernel
theorem dX11_findPairs_64 : decode cX11_findPairs 64 = .ok (.iaload, 1) := by decide +kernel
theorem dX11_findPairs_65 : decode cX11_findPairs 65 = .ok (.iastore, 1) := by decide +kernel
theorem dX11_findPairs_66 : decode cX11_findPairs 66 = .ok (.iload 4, 2) := by decide +kernel
theorem dX11_findPairs_68 : decode cX11_findPairs 68 = .ok (.ifCond .eq 35, 3) := by decide +kernel
theorem dX11_findPairs_71 : decode cX11_findPairs 71 = .ok (.aload_n 0, 1) := by decide +kernel
theorem dX11_findPairs_72 : decode cX11_findPairs 72 = .ok (.getfield 86, 3) := by decide +kernel
theorem dX11_findPairs_75 : decode cX11_findPairs 75 = .ok (.iload 5, 2) := by decide +kernel
theorem dX11_findPairs_77 : decode cX11_findPairs 77 = .ok (.iaload, 1) := by decide +kernel
theorem dX11_findPairs_78 : decode cX11_findPairs 78 = .ok (.iconst (-1), 1) := by decide +kernel
theorem dX11_findPairs_79 : decode cX11_findPairs 79 = .ok (.if_icmp .eq 20, 3) := by decide +kernel
theorem dX11_findPairs_82 : decode cX11_findPairs 82 = .ok (.aload_n 0, 1) := by decide +kernel
theorem dX11_findPairs_83 : decode cX11_findPairs 83 = .ok (.getfield 86, 3) := by decide +kernel
theorem dX11_findPairs_86 : decode cX11_findPairs 86 = .ok (.iload 5, 2) := by decide +kernel
theorem dX11_findPairs_88 : decode cX11_findPairs 88 = .ok (.iaload, 1) := by decide +kernel
theorem dX11_findPairs_89 : decode cX11_findPairs 89 = .ok (.aload_n 0, 1) := by decide +kernel
theorem dX11_findPairs_90 : decode cX11_findPairs 90 = .ok (.getfield 89, 3) := by decide +kernel
theorem dX11_findPairs_93 : decode cX11_findPairs 93 = .ok (.iload 5, 2) := by decide +kernel
theorem dX11_findPairs_95 : decode cX11_findPairs 95 = .ok (.iaload, 1) := by decide +kernel
theorem dX11_findPairs_96 : decode cX11_findPairs 96 = .ok (.if_icmp .ne 7, 3) := by decide +kernel
theorem dX11_findPairs_99 : decode cX11_findPairs 99 = .ok (.iconst 1, 1) := by decide +kernel
theorem dX11_findPairs_100 : decode cX11_findPairs 100 = .ok (.goto 4, 3) := by decide +kernel
theorem dX11_findPairs_103 : decode cX11_findPairs 103 = .ok (.iconst 0, 1) := by decide +kernel
theorem dX11_findPairs_104 : decode cX11_findPairs 104 = .ok (.istore 4, 2) := by decide +kernel
theorem dX11_findPairs_106 : decode cX11_findPairs 106 = .ok (.iinc 5 1, 3) := by decide +kernel
theorem dX11_findPairs_109 : decode cX11_findPairs 109 = .ok (.goto (-74), 3) := by decide +kernel
theorem dX11_findPairs_112 : decode cX11_findPairs 112 = .ok (.aload_n 0, 1) := by decide +kernel
theorem dX11_findPairs_113 : decode cX11_findPairs 113 = .ok (.getfield 104, 3) := by decide +kernel
theorem dX11_findPairs_116 : decode cX11_findPairs 116 = .ok (.bipush 6, 2) := by decide +kernel
theorem dX11_findPairs_118 : decode cX11_findPairs 118 = .ok (.iload_n 2, 1) := by decide +kernel
theorem dX11_findPairs_119 : decode cX11_findPairs 119 = .ok (.imul, 1) := by decide +kernel
theorem dX11_findPairs_120 : decode cX11_findPairs 120 = .ok (.iload_n 3, 1) := by decide +kernel
theorem dX11_findPairs_121 : decode cX11_findPairs 121 = .ok (.iadd, 1) := by decide +kernel
theorem dX11_findPairs_122 : decode cX11_findPairs 122 = .ok (.iload 4, 2) := by decide +kernel
theorem dX11_findPairs_124 : decode cX11_findPairs 124 = .ok (.bastore, 1) := by decide +kernel
theorem dX11_findPairs_125 : decode cX11_findPairs 125 = .ok (.iinc 3 1, 3) := by decide +kernel
theorem dX11_findPairs_128 : decode cX11_findPairs 128 = .ok (.goto (-116), 3) := by decide +kernel
theorem dX11_findPairs_131 : decode cX11_findPairs 131 = .ok (.iinc 2 1, 3) := by decide +kernel
theorem dX11_findPairs_134 : decode cX11_findPairs 134 = .ok (.goto (-132), 3) := by decide +kernel
theorem dX11_findPairs_137 : decode cX11_findPairs 137 = .ok (.return_, 1) := by decide +kernel
theorem dX11_fits_0 : decode cX11_fits 0 = .ok (.aload_n 0, 1) := by decide +kernel
theorem dX11_fits_1 : decode cX11_fits 1 = .ok (.iconst 0, 1) := by decide +kernel
theorem dX11_fits_2 : decode cX11_fits 2 = .ok (.putfield 3, 3) := by decide +kernel
theorem dX11_fits_5 : decode cX11_fits 5 = .ok (.aload_n 0, 1) := by decide +kernel
theorem dX11_fits_6 : decode cX11_fits 6 = .ok (.iload_n 1, 1) := by decide +kernel
theorem dX11_fits_7 : decode cX11_fits 7 = .ok (.iconst 1, 1) := by decide +kernel
theorem dX11_fits_8 : decode cX11_fits 8 = .ok (.invokevirtual 404, 3) := by decide +kernel
theorem dX11_fits_11 : decode cX11_fits 11 = .ok (.ifCond .eq 18, 3) := by decide +kernel
theorem dX11_fits_14 : decode cX11_fits 14 = .ok (.aload_n 0, 1) := by decide +kernel
theorem dX11_fits_15 : decode cX11_fits 15 = .ok (.iload_n 2, 1) := by decide +kernel
theorem dX11_fits_16 : decode cX11_fits 16 = .ok (.iconst 0, 1) := by decide +kernel
theorem dX11_fits_17 : decode cX11_fits 17 = .ok (.iconst 1, 1) := by decide +kernel
theorem dX11_fits_18 : decode cX11_fits 18 = .ok (.invokestatic 383, 3) := by decide +kernel
theorem dX11_fits_21 : decode cX11_fits 21 = .ok (.iconst 2, 1) := by decide +kernel
theorem dX11_fits_22 : decode cX11_fits 22 = .ok (.iconst 1, 1) := by decide +kernel
theorem dX11_fits_23 : decode cX11_fits 23 = .ok (.invokevirtual 216, 3) := by decide +kernel
theorem dX11_fits_26 : decode cX11_fits 26 = .ok (.ifCond .ne 5, 3) := by decide +kernel
theorem dX11_fits_29 : decode cX11_fits 29 = .ok (.iconst 0, 1) := by decide +kernel
theorem dX11_fits_30 : decode cX11_fits 30 = .ok (.ireturn, 1) := by decide +kernel
theorem dX11_fits_31 : decode cX11_fits 31 = .ok (.aload_n 0, 1) := by decide +kernel
theorem dX11_fits_32 : decode cX11_fits 32 = .ok (.iload_n 1, 1) := by decide +kernel
theorem dX11_fits_33 : decode cX11_fits 33 = .ok (.invokevirtual 428, 3) := by decide +kernel
theorem dX11_fits_36 : decode cX11_fits 36 = .ok (.iconst 0, 1) := by decide +kernel
theorem dX11_fits_37 : decode cX11_fits 37 = .ok (.istore_n 3, 1) := by decide +kernel
theorem dX11_fits_38 : decode cX11_fits 38 = .ok (.iconst (-1), 1) := by decide +kernel
theorem dX11_fits_39 : decode cX11_fits 39 = .ok (.istore 4, 2) := by decide +kernel
theorem dX11_fits_41 : decode cX11_fits 41 = .ok (.iconst 0, 1) := by decide +kernel
theorem dX11_fits_42 : decode cX11_fits 42 = .ok (.istore 5, 2) := by decide +kernel
theorem dX11_fits_44 : decode cX11_fits 44 = .ok (.iload 5, 2) := by decide +kernel
theorem dX11_fits_46 : decode cX11_fits 46 = .ok (.aload_n 0, 1) := by decide +kernel
theorem dX11_fits_47 : decode cX11_fits 47 = .ok (.getfield 175, 3) := by decide +kernel
theorem dX11_fits_50 : decode cX11_fits 50 = .ok (.if_icmp .ge 70, 3) := by decide +kernel
theorem dX11_fits_53 : decode cX11_fits 53 = .ok (.iconst 0, 1) := by decide +kernel
theorem dX11_fits_54 : decode cX11_fits 54 = .ok (.istore 6, 2) := by decide +kernel
theorem dX11_fits_56 : decode cX11_fits 56 = .ok (.iload 6, 2) := by decide +kernel
theorem dX11_fits_58 : decode cX11_fits 58 = .ok (.aload_n 0, 1) := by decide +kernel
theorem dX11_fits_59 : decode cX11_fits 59 = .ok (.getfield 178, 3) := by decide +kernel
theorem dX11_fits_62 : decode cX11_fits 62 = .ok (.if_icmp .ge 52, 3) := by decide +kernel
theorem dX11_fits_65 : decode cX11_fits 65 = .ok (.aload_n 0, 1) := by decide +kernel
theorem dX11_fits_66 : decode cX11_fits 66 = .ok (.getfield 104, 3) := by decide +kernel
theorem dX11_fits_69 : decode cX11_fits 69 = .ok (.bipush 6, 2) := by decide +kernel
theorem dX11_fits_71 : decode cX11_fits 71 = .ok (.iload 5, 2) := by decide +kernel
theorem dX11_fits_73 : decode cX11_fits 73 = .ok (.imul, 1) := by decide +kernel
theorem dX11_fits_74 : decode cX11_fits 74 = .ok (.iload 6, 2) := by decide +kernel
theorem dX11_fits_76 : decode cX11_fits 76 = .ok (.iadd, 1) := by decide +kernel
theorem dX11_fits_77 : decode cX11_fits 77 = .ok (.baload, 1) := by decide +kernel
theorem dX11_fits_78 : decode cX11_fits 78 = .ok (.ifCond .ne 6, 3) := by decide +kernel
theorem dX11_fits_81 : decode cX11_fits 81 = .ok (.goto 27, 3) := by decide +kernel
theorem dX11_fits_84 : decode cX11_fits 84 = .ok (.iinc 3 1, 3) := by decide +kernel
theorem dX11_fits_87 : decode cX11_fits 87 = .ok (.iload 4, 2) := by decide +kernel
theorem dX11_fits_89 : decode cX11_fits 89 = .ok (.iconst (-1), 1) := by decide +kernel
theorem dX11_fits_90 : decode cX11_fits 90 = .ok (.if_icmp .ne 14, 3) := by decide +kernel
theorem dX11_fits_93 : decode cX11_fits 93 = .ok (.bipush 10, 2) := by decide +kernel
theorem dX11_fits_95 : decode cX11_fits 95 = .ok (.iload 5, 2) := by decide +kernel
theorem dX11_fits_97 : decode cX11_fits 97 = .ok (.imul, 1) := by decide +kernel
theorem dX11_fits_98 : decode cX11_fits 98 = .ok (.iload 6, 2) := by decide +kernel
theorem dX11_fits_100 : decode cX11_fits 100 = .ok (.iadd, 1) := by decide +kernel
theorem dX11_fits_101 : decode cX11_fits 101 = .ok (.goto 5, 3) := by decide +kernel
theorem dX11_fits_104 : decode cX11_fits 104 = .ok (.iload 4, 2) := by decide +kernel
theorem dX11_fits_106 : decode cX11_fits 106 = .ok (.istore 4, 2) := by decide +kernel
theorem dX11_fits_108 : decode cX11_fits 108 = .ok (.iinc 6 1, 3) := by decide +kernel
theorem dX11_fits_111 : decode cX11_fits 111 = .ok (.goto (-55), 3) := by decide +kernel
theorem dX11_fits_114 : decode cX11_fits 114 = .ok (.iinc 5 1, 3) := by decide +kernel
theorem dX11_fits_117 : decode cX11_fits 117 = .ok (.goto (-73), 3) := by decide +kernel
theorem dX11_fits_120 : decode cX11_fits 120 = .ok (.iload_n 2, 1) := by decide +kernel
theorem dX11_fits_121 : decode cX11_fits 121 = .ok (.ifCond .ne 7, 3) := by decide +kernel
theorem dX11_fits_124 : decode cX11_fits 124 = .ok (.iload_n 3, 1) := by decide +kernel
theorem dX11_fits_125 : decode cX11_fits 125 = .ok (.goto 5, 3) := by decide +kernel
theorem dX11_fits_128 : decode cX11_fits 128 = .ok (.iload 4, 2) := by decide +kernel
theorem dX11_fits_130 : decode cX11_fits 130 = .ok (.ireturn, 1) := by decide +kernel
theorem dX11_look_0 : decode cX11_look 0 = .ok (.aload_n 0, 1) := by decide +kernel
theorem dX11_look_1 : decode cX11_look 1 = .ok (.iconst 0, 1) := by decide +kernel
theorem dX11_look_2 : decode cX11_look 2 = .ok (.putfield 3, 3) := by decide +kernel
theorem dX11_look_5 : decode cX11_look 5 = .ok (.aload_n 0, 1) := by decide +kernel
theorem dX11_look_6 : decode cX11_look 6 = .ok (.iload_n 1, 1) := by decide +kernel
theorem dX11_look_7 : decode cX11_look 7 = .ok (.iconst 1, 1) := by decide +kernel
theorem dX11_look_8 : decode cX11_look 8 = .ok (.invokevirtual 404, 3) := by decide +kernel
