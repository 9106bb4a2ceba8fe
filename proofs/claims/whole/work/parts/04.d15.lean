theorem dX11_coast_38 : decode cX11_coast 38 = .ok (.aload_n 0, 1) := by decide +kernel
theorem dX11_coast_39 : decode cX11_coast 39 = .ok (.invokevirtual 114, 3) := by decide +kernel
theorem dX11_coast_42 : decode cX11_coast 42 = .ok (.iconst 0, 1) := by decide +kernel
theorem dX11_coast_43 : decode cX11_coast 43 = .ok (.istore_n 2, 1) := by decide +kernel
theorem dX11_coast_44 : decode cX11_coast 44 = .ok (.aload_n 0, 1) := by decide +kernel
theorem dX11_coast_45 : decode cX11_coast 45 = .ok (.invokevirtual 152, 3) := by decide +kernel
theorem dX11_coast_48 : decode cX11_coast 48 = .ok (.ifCond .eq 88, 3) := by decide +kernel
theorem dX11_coast_51 : decode cX11_coast 51 = .ok (.aload_n 0, 1) := by decide +kernel
theorem dX11_coast_52 : decode cX11_coast 52 = .ok (.invokevirtual 224, 3) := by decide +kernel
theorem dX11_coast_55 : decode cX11_coast 55 = .ok (.ifCond .eq 81, 3) := by decide +kernel
theorem dX11_coast_58 : decode cX11_coast 58 = .ok (.aload_n 0, 1) := by decide +kernel
theorem dX11_coast_59 : decode cX11_coast 59 = .ok (.invokevirtual 227, 3) := by decide +kernel
theorem dX11_coast_62 : decode cX11_coast 62 = .ok (.istore_n 3, 1) := by decide +kernel
theorem dX11_coast_63 : decode cX11_coast 63 = .ok (.iload_n 3, 1) := by decide +kernel
theorem dX11_coast_64 : decode cX11_coast 64 = .ok (.invokestatic 230, 3) := by decide +kernel
theorem dX11_coast_67 : decode cX11_coast 67 = .ok (.ifCond .ne 15, 3) := by decide +kernel
theorem dX11_coast_70 : decode cX11_coast 70 = .ok (.aload_n 0, 1) := by decide +kernel
theorem dX11_coast_71 : decode cX11_coast 71 = .ok (.iconst 1, 1) := by decide +kernel
theorem dX11_coast_72 : decode cX11_coast 72 = .ok (.aload_n 0, 1) := by decide +kernel
theorem dX11_coast_73 : decode cX11_coast 73 = .ok (.getfield 129, 3) := by decide +kernel
theorem dX11_coast_76 : decode cX11_coast 76 = .ok (.invokevirtual 159, 3) := by decide +kernel
theorem dX11_coast_79 : decode cX11_coast 79 = .ok (.goto 26, 3) := by decide +kernel
theorem dX11_coast_82 : decode cX11_coast 82 = .ok (.iload_n 2, 1) := by decide +kernel
theorem dX11_coast_83 : decode cX11_coast 83 = .ok (.bipush 60, 2) := by decide +kernel
theorem dX11_coast_85 : decode cX11_coast 85 = .ok (.if_icmp .eq 11, 3) := by decide +kernel
theorem dX11_coast_88 : decode cX11_coast 88 = .ok (.aload_n 0, 1) := by decide +kernel
theorem dX11_coast_89 : decode cX11_coast 89 = .ok (.iload_n 3, 1) := by decide +kernel
theorem dX11_coast_90 : decode cX11_coast 90 = .ok (.invokevirtual 233, 3) := by decide +kernel
theorem dX11_coast_93 : decode cX11_coast 93 = .ok (.ifCond .eq 12, 3) := by decide +kernel
theorem dX11_coast_96 : decode cX11_coast 96 = .ok (.aload_n 0, 1) := by decide +kernel
theorem dX11_coast_97 : decode cX11_coast 97 = .ok (.iconst 3, 1) := by decide +kernel
theorem dX11_coast_98 : decode cX11_coast 98 = .ok (.aload_n 0, 1) := by decide +kernel
theorem dX11_coast_99 : decode cX11_coast 99 = .ok (.getfield 129, 3) := by decide +kernel
theorem dX11_coast_102 : decode cX11_coast 102 = .ok (.invokevirtual 159, 3) := by decide +kernel
theorem dX11_coast_105 : decode cX11_coast 105 = .ok (.aload_n 0, 1) := by decide +kernel
theorem dX11_coast_106 : decode cX11_coast 106 = .ok (.invokevirtual 152, 3) := by decide +kernel
theorem dX11_coast_109 : decode cX11_coast 109 = .ok (.ifCond .ne 6, 3) := by decide +kernel
theorem dX11_coast_112 : decode cX11_coast 112 = .ok (.goto 24, 3) := by decide +kernel
theorem dX11_coast_115 : decode cX11_coast 115 = .ok (.aload_n 0, 1) := by decide +kernel
theorem dX11_coast_116 : decode cX11_coast 116 = .ok (.invokevirtual 236, 3) := by decide +kernel
theorem dX11_coast_119 : decode cX11_coast 119 = .ok (.aload_n 0, 1) := by decide +kernel
theorem dX11_coast_120 : decode cX11_coast 120 = .ok (.iload_n 3, 1) := by decide +kernel
theorem dX11_coast_121 : decode cX11_coast 121 = .ok (.invokevirtual 239, 3) := by decide +kernel
theorem dX11_coast_124 : decode cX11_coast 124 = .ok (.aload_n 0, 1) := by decide +kernel
theorem dX11_coast_125 : decode cX11_coast 125 = .ok (.bipush 59, 2) := by decide +kernel
theorem dX11_coast_127 : decode cX11_coast 127 = .ok (.invokevirtual 242, 3) := by decide +kernel
theorem dX11_coast_130 : decode cX11_coast 130 = .ok (.iinc 2 1, 3) := by decide +kernel
theorem dX11_coast_133 : decode cX11_coast 133 = .ok (.goto (-89), 3) := by decide +kernel
theorem dX11_coast_136 : decode cX11_coast 136 = .ok (.aload_n 0, 1) := by decide +kernel
theorem dX11_coast_137 : decode cX11_coast 137 = .ok (.aload_n 0, 1) := by decide +kernel
theorem dX11_coast_138 : decode cX11_coast 138 = .ok (.getfield 172, 3) := by decide +kernel
theorem dX11_coast_141 : decode cX11_coast 141 = .ok (.invokevirtual 245, 3) := by decide +kernel
theorem dX11_coast_144 : decode cX11_coast 144 = .ok (.istore_n 3, 1) := by decide +kernel
theorem dX11_coast_145 : decode cX11_coast 145 = .ok (.aload_n 0, 1) := by decide +kernel
theorem dX11_coast_146 : decode cX11_coast 146 = .ok (.getfield 123, 3) := by decide +kernel
theorem dX11_coast_149 : decode cX11_coast 149 = .ok (.iconst (-1), 1) := by decide +kernel
theorem dX11_coast_150 : decode cX11_coast 150 = .ok (.if_icmp .ne 7, 3) := by decide +kernel
theorem dX11_coast_153 : decode cX11_coast 153 = .ok (.aload_n 0, 1) := by decide +kernel
theorem dX11_coast_154 : decode cX11_coast 154 = .ok (.invokevirtual 117, 3) := by decide +kernel
theorem dX11_coast_157 : decode cX11_coast 157 = .ok (.iload_n 3, 1) := by decide +kernel
theorem dX11_coast_158 : decode cX11_coast 158 = .ok (.ireturn, 1) := by decide +kernel
theorem dX11_emit_0 : decode cX11_emit 0 = .ok (.aload_n 0, 1) := by decide +kernel
theorem dX11_emit_1 : decode cX11_emit 1 = .ok (.invokevirtual 152, 3) := by decide +kernel
theorem dX11_emit_4 : decode cX11_emit 4 = .ok (.ifCond .ne 4, 3) := by decide +kernel
theorem dX11_emit_7 : decode cX11_emit 7 = .ok (.return_, 1) := by decide +kernel
theorem dX11_emit_8 : decode cX11_emit 8 = .ok (.aload_n 0, 1) := by decide +kernel
theorem dX11_emit_9 : decode cX11_emit 9 = .ok (.getfield 47, 3) := by decide +kernel
theorem dX11_emit_12 : decode cX11_emit 12 = .ok (.aload_n 0, 1) := by decide +kernel
theorem dX11_emit_13 : decode cX11_emit 13 = .ok (.getfield 249, 3) := by decide +kernel
theorem dX11_emit_16 : decode cX11_emit 16 = .ok (.iload_n 1, 1) := by decide +kernel
theorem dX11_emit_17 : decode cX11_emit 17 = .ok (.iastore, 1) := by decide +kernel
theorem dX11_emit_18 : decode cX11_emit 18 = .ok (.aload_n 0, 1) := by decide +kernel
theorem dX11_emit_19 : decode cX11_emit 19 = .ok (.getfield 50, 3) := by decide +kernel
theorem dX11_emit_22 : decode cX11_emit 22 = .ok (.aload_n 0, 1) := by decide +kernel
theorem dX11_emit_23 : decode cX11_emit 23 = .ok (.getfield 249, 3) := by decide +kernel
theorem dX11_emit_26 : decode cX11_emit 26 = .ok (.iload_n 2, 1) := by decide +kernel
theorem dX11_emit_27 : decode cX11_emit 27 = .ok (.iastore, 1) := by decide +kernel
theorem dX11_emit_28 : decode cX11_emit 28 = .ok (.aload_n 0, 1) := by decide +kernel
theorem dX11_emit_29 : decode cX11_emit 29 = .ok (.dup, 1) := by decide +kernel
theorem dX11_emit_30 : decode cX11_emit 30 = .ok (.getfield 249, 3) := by decide +kernel
theorem dX11_emit_33 : decode cX11_emit 33 = .ok (.iconst 1, 1) := by decide +kernel
theorem dX11_emit_34 : decode cX11_emit 34 = .ok (.iadd, 1) := by decide +kernel
theorem dX11_emit_35 : decode cX11_emit 35 = .ok (.putfield 249, 3) := by decide +kernel
theorem dX11_emit_38 : decode cX11_emit 38 = .ok (.return_, 1) := by decide +kernel
theorem dX11_opensOne_0 : decode cX11_opensOne 0 = .ok (.aload_n 0, 1) := by decide +kernel
theorem dX11_opensOne_1 : decode cX11_opensOne 1 = .ok (.invokevirtual 152, 3) := by decide +kernel
theorem dX11_opensOne_4 : decode cX11_opensOne 4 = .ok (.ifCond .eq 21, 3) := by decide +kernel
theorem dX11_opensOne_7 : decode cX11_opensOne 7 = .ok (.aload_n 0, 1) := by decide +kernel
theorem dX11_opensOne_8 : decode cX11_opensOne 8 = .ok (.getfield 163, 3) := by decide +kernel
theorem dX11_opensOne_11 : decode cX11_opensOne 11 = .ok (.bipush 6, 2) := by decide +kernel
theorem dX11_opensOne_13 : decode cX11_opensOne 13 = .ok (.if_icmp .ne 12, 3) := by decide +kernel
theorem dX11_opensOne_16 : decode cX11_opensOne 16 = .ok (.aload_n 0, 1) := by decide +kernel
theorem dX11_opensOne_17 : decode cX11_opensOne 17 = .ok (.iconst 3, 1) := by decide +kernel
theorem dX11_opensOne_18 : decode cX11_opensOne 18 = .ok (.aload_n 0, 1) := by decide +kernel
theorem dX11_opensOne_19 : decode cX11_opensOne 19 = .ok (.getfield 129, 3) := by decide +kernel
theorem dX11_opensOne_22 : decode cX11_opensOne 22 = .ok (.invokevirtual 159, 3) := by decide +kernel
theorem dX11_opensOne_25 : decode cX11_opensOne 25 = .ok (.aload_n 0, 1) := by decide +kernel
theorem dX11_opensOne_26 : decode cX11_opensOne 26 = .ok (.invokevirtual 152, 3) := by decide +kernel
theorem dX11_opensOne_29 : decode cX11_opensOne 29 = .ok (.ifCond .eq 13, 3) := by decide +kernel
theorem dX11_opensOne_32 : decode cX11_opensOne 32 = .ok (.aload_n 0, 1) := by decide +kernel
theorem dX11_opensOne_33 : decode cX11_opensOne 33 = .ok (.dup, 1) := by decide +kernel
theorem dX11_opensOne_34 : decode cX11_opensOne 34 = .ok (.getfield 129, 3) := by decide +kernel
theorem dX11_opensOne_37 : decode cX11_opensOne 37 = .ok (.iload_n 1, 1) := by decide +kernel
theorem dX11_opensOne_38 : decode cX11_opensOne 38 = .ok (.iadd, 1) := by decide +kernel
theorem dX11_opensOne_39 : decode cX11_opensOne 39 = .ok (.putfield 129, 3) := by decide +kernel
theorem dX11_opensOne_42 : decode cX11_opensOne 42 = .ok (.aload_n 0, 1) := by decide +kernel
theorem dX11_opensOne_43 : decode cX11_opensOne 43 = .ok (.dup, 1) := by decide +kernel
theorem dX11_opensOne_44 : decode cX11_opensOne 44 = .ok (.getfield 163, 3) := by decide +kernel
theorem dX11_opensOne_47 : decode cX11_opensOne 47 = .ok (.iconst 1, 1) := by decide +kernel
theorem dX11_opensOne_48 : decode cX11_opensOne 48 = .ok (.iadd, 1) := by decide +kernel
theorem dX11_opensOne_49 : decode cX11_opensOne 49 = .ok (.putfield 163, 3) := by decide +kernel
theorem dX11_opensOne_52 : decode cX11_opensOne 52 = .ok (.return_, 1) := by decide +kernel
theorem dX11_readSum_0 : decode cX11_readSum 0 = .ok (.aload_n 0, 1) := by decide +kernel
theorem dX11_readSum_1 : decode cX11_readSum 1 = .ok (.invokevirtual 252, 3) := by decide +kernel
theorem dX11_readSum_4 : decode cX11_readSum 4 = .ok (.aload_n 0, 1) := by decide +kernel
theorem dX11_readSum_5 : decode cX11_readSum 5 = .ok (.invokevirtual 152, 3) := by decide +kernel
theorem dX11_readSum_8 : decode cX11_readSum 8 = .ok (.ifCond .eq 59, 3) := by decide +kernel
theorem dX11_readSum_11 : decode cX11_readSum 11 = .ok (.aload_n 0, 1) := by decide +kernel
theorem dX11_readSum_12 : decode cX11_readSum 12 = .ok (.invokevirtual 135, 3) := by decide +kernel
theorem dX11_readSum_15 : decode cX11_readSum 15 = .ok (.bipush 43, 2) := by decide +kernel
theorem dX11_readSum_17 : decode cX11_readSum 17 = .ok (.if_icmp .eq 12, 3) := by decide +kernel
theorem dX11_readSum_20 : decode cX11_readSum 20 = .ok (.aload_n 0, 1) := by decide +kernel
theorem dX11_readSum_21 : decode cX11_readSum 21 = .ok (.invokevirtual 135, 3) := by decide +kernel
theorem dX11_readSum_24 : decode cX11_readSum 24 = .ok (.bipush 45, 2) := by decide +kernel
theorem dX11_readSum_26 : decode cX11_readSum 26 = .ok (.if_icmp .ne 41, 3) := by decide +kernel
theorem dX11_readSum_29 : decode cX11_readSum 29 = .ok (.aload_n 0, 1) := by decide +kernel
theorem dX11_readSum_30 : decode cX11_readSum 30 = .ok (.invokevirtual 135, 3) := by decide +kernel
theorem dX11_readSum_33 : decode cX11_readSum 33 = .ok (.bipush 43, 2) := by decide +kernel
theorem dX11_readSum_35 : decode cX11_readSum 35 = .ok (.if_icmp .ne 7, 3) := by decide +kernel
theorem dX11_readSum_38 : decode cX11_readSum 38 = .ok (.iconst 2, 1) := by decide +kernel
theorem dX11_readSum_39 : decode cX11_readSum 39 = .ok (.goto 4, 3) := by decide +kernel
theorem dX11_readSum_42 : decode cX11_readSum 42 = .ok (.iconst 3, 1) := by decide +kernel
theorem dX11_readSum_43 : decode cX11_readSum 43 = .ok (.istore_n 1, 1) := by decide +kernel
theorem dX11_readSum_44 : decode cX11_readSum 44 = .ok (.aload_n 0, 1) := by decide +kernel
theorem dX11_readSum_45 : decode cX11_readSum 45 = .ok (.dup, 1) := by decide +kernel
theorem dX11_readSum_46 : decode cX11_readSum 46 = .ok (.getfield 129, 3) := by decide +kernel
theorem dX11_readSum_49 : decode cX11_readSum 49 = .ok (.iconst 1, 1) := by decide +kernel
theorem dX11_readSum_50 : decode cX11_readSum 50 = .ok (.iadd, 1) := by decide +kernel
theorem dX11_readSum_51 : decode cX11_readSum 51 = .ok (.putfield 129, 3) := by decide +kernel
theorem dX11_readSum_54 : decode cX11_readSum 54 = .ok (.aload_n 0, 1) := by decide +kernel
theorem dX11_readSum_55 : decode cX11_readSum 55 = .ok (.invokevirtual 252, 3) := by decide +kernel
theorem dX11_readSum_58 : decode cX11_readSum 58 = .ok (.aload_n 0, 1) := by decide +kernel
theorem dX11_readSum_59 : decode cX11_readSum 59 = .ok (.iload_n 1, 1) := by decide +kernel
theorem dX11_readSum_60 : decode cX11_readSum 60 = .ok (.iconst 0, 1) := by decide +kernel
theorem dX11_readSum_61 : decode cX11_readSum 61 = .ok (.invokevirtual 255, 3) := by decide +kernel
theorem dX11_readSum_64 : decode cX11_readSum 64 = .ok (.goto (-60), 3) := by decide +kernel
theorem dX11_readSum_67 : decode cX11_readSum 67 = .ok (.return_, 1) := by decide +kernel
theorem dX11_readProduct_0 : decode cX11_readProduct 0 = .ok (.aload_n 0, 1) := by decide +kernel
theorem dX11_readProduct_1 : decode cX11_readProduct 1 = .ok (.invokevirtual 258, 3) := by decide +kernel
theorem dX11_readProduct_4 : decode cX11_readProduct 4 = .ok (.aload_n 0, 1) := by decide +kernel
theorem dX11_readProduct_5 : decode cX11_readProduct 5 = .ok (.invokevirtual 152, 3) := by decide +kernel
theorem dX11_readProduct_8 : decode cX11_readProduct 8 = .ok (.ifCond .eq 82, 3) := by decide +kernel
theorem dX11_readProduct_11 : decode cX11_readProduct 11 = .ok (.aload_n 0, 1) := by decide +kernel
theorem dX11_readProduct_12 : decode cX11_readProduct 12 = .ok (.invokevirtual 135, 3) := by decide +kernel
theorem dX11_readProduct_15 : decode cX11_readProduct 15 = .ok (.bipush 42, 2) := by decide +kernel
theorem dX11_readProduct_17 : decode cX11_readProduct 17 = .ok (.if_icmp .eq 21, 3) := by decide +kernel
theorem dX11_readProduct_20 : decode cX11_readProduct 20 = .ok (.aload_n 0, 1) := by decide +kernel
theorem dX11_readProduct_21 : decode cX11_readProduct 21 = .ok (.invokevirtual 135, 3) := by decide +kernel
theorem dX11_readProduct_24 : decode cX11_readProduct 24 = .ok (.bipush 47, 2) := by decide +kernel
theorem dX11_readProduct_26 : decode cX11_readProduct 26 = .ok (.if_icmp .eq 12, 3) := by decide +kernel
theorem dX11_readProduct_29 : decode cX11_readProduct 29 = .ok (.aload_n 0, 1) := by decide +kernel
theorem dX11_readProduct_30 : decode cX11_readProduct 30 = .ok (.invokevirtual 135, 3) := by decide +kernel
theorem dX11_readProduct_33 : decode cX11_readProduct 33 = .ok (.bipush 37, 2) := by decide +kernel
theorem dX11_readProduct_35 : decode cX11_readProduct 35 = .ok (.if_icmp .ne 55, 3) := by decide +kernel
theorem dX11_readProduct_38 : decode cX11_readProduct 38 = .ok (.aload_n 0, 1) := by decide +kernel
theorem dX11_readProduct_39 : decode cX11_readProduct 39 = .ok (.invokevirtual 135, 3) := by decide +kernel
theorem dX11_readProduct_42 : decode cX11_readProduct 42 = .ok (.bipush 42, 2) := by decide +kernel
theorem dX11_readProduct_44 : decode cX11_readProduct 44 = .ok (.if_icmp .ne 7, 3) := by decide +kernel
theorem dX11_readProduct_47 : decode cX11_readProduct 47 = .ok (.iconst 4, 1) := by decide +kernel
theorem dX11_readProduct_48 : decode cX11_readProduct 48 = .ok (.goto 18, 3) := by decide +kernel
theorem dX11_readProduct_51 : decode cX11_readProduct 51 = .ok (.aload_n 0, 1) := by decide +kernel
theorem dX11_readProduct_52 : decode cX11_readProduct 52 = .ok (.invokevirtual 135, 3) := by decide +kernel
theorem dX11_readProduct_55 : decode cX11_readProduct 55 = .ok (.bipush 47, 2) := by decide +kernel
theorem dX11_readProduct_57 : decode cX11_readProduct 57 = .ok (.if_icmp .ne 7, 3) := by decide +kernel
theorem dX11_readProduct_60 : decode cX11_readProduct 60 = .ok (.iconst 5, 1) := by decide +kernel
theorem dX11_readProduct_61 : decode cX11_readProduct 61 = .ok (.goto 5, 3) := by decide +kernel
theorem dX11_readProduct_64 : decode cX11_readProduct 64 = .ok (.bipush 8, 2) := by decide +kernel
theorem dX11_readProduct_66 : decode cX11_readProduct 66 = .ok (.istore_n 1, 1) := by decide +kernel
theorem dX11_readProduct_67 : decode cX11_readProduct 67 = .ok (.aload_n 0, 1) := by decide +kernel
theorem dX11_readProduct_68 : decode cX11_readProduct 68 = .ok (.dup, 1) := by decide +kernel
theorem dX11_readProduct_69 : decode cX11_readProduct 69 = .ok (.getfield 129, 3) := by decide +kernel
theorem dX11_readProduct_72 : decode cX11_readProduct 72 = .ok (.iconst 1, 1) := by decide +kernel
theorem dX11_readProduct_73 : decode cX11_readProduct 73 = .ok (.iadd, 1) := by decide +kernel
theorem dX11_readProduct_74 : decode cX11_readProduct 74 = .ok (.putfield 129, 3) := by decide +kernel
theorem dX11_readProduct_77 : decode cX11_readProduct 77 = .ok (.aload_n 0, 1) := by decide +kernel
theorem dX11_readProduct_78 : decode cX11_readProduct 78 = .ok (.invokevirtual 258, 3) := by decide +kernel
theorem dX11_readProduct_81 : decode cX11_readProduct 81 = .ok (.aload_n 0, 1) := by decide +kernel
theorem dX11_readProduct_82 : decode cX11_readProduct 82 = .ok (.iload_n 1, 1) := by decide +kernel
theorem dX11_readProduct_83 : decode cX11_readProduct 83 = .ok (.iconst 0, 1) := by decide +kernel
theorem dX11_readProduct_84 : decode cX11_readProduct 84 = .ok (.invokevirtual 255, 3) := by decide +kernel
theorem dX11_readProduct_87 : decode cX11_readProduct 87 = .ok (.goto (-83), 3) := by decide +kernel
theorem dX11_readProduct_90 : decode cX11_readProduct 90 = .ok (.return_, 1) := by decide +kernel
theorem dX11_readTwo_0 : decode cX11_readTwo 0 = .ok (.aload_n 0, 1) := by decide +kernel
theorem dX11_readTwo_1 : decode cX11_readTwo 1 = .ok (.iload_n 1, 1) := by decide +kernel
theorem dX11_readTwo_2 : decode cX11_readTwo 2 = .ok (.invokevirtual 261, 3) := by decide +kernel
theorem dX11_readTwo_5 : decode cX11_readTwo 5 = .ok (.aload_n 0, 1) := by decide +kernel
theorem dX11_readTwo_6 : decode cX11_readTwo 6 = .ok (.bipush 91, 2) := by decide +kernel
theorem dX11_readTwo_8 : decode cX11_readTwo 8 = .ok (.invokevirtual 242, 3) := by decide +kernel
theorem dX11_readTwo_11 : decode cX11_readTwo 11 = .ok (.aload_n 0, 1) := by decide +kernel
theorem dX11_readTwo_12 : decode cX11_readTwo 12 = .ok (.invokevirtual 264, 3) := by decide +kernel
theorem dX11_readTwo_15 : decode cX11_readTwo 15 = .ok (.aload_n 0, 1) := by decide +kernel
theorem dX11_readTwo_16 : decode cX11_readTwo 16 = .ok (.bipush 44, 2) := by decide +kernel
theorem dX11_readTwo_18 : decode cX11_readTwo 18 = .ok (.invokevirtual 242, 3) := by decide +kernel
theorem dX11_readTwo_21 : decode cX11_readTwo 21 = .ok (.aload_n 0, 1) := by decide +kernel
theorem dX11_readTwo_22 : decode cX11_readTwo 22 = .ok (.invokevirtual 264, 3) := by decide +kernel
theorem dX11_readTwo_25 : decode cX11_readTwo 25 = .ok (.aload_n 0, 1) := by decide +kernel
theorem dX11_readTwo_26 : decode cX11_readTwo 26 = .ok (.bipush 93, 2) := by decide +kernel
theorem dX11_readTwo_28 : decode cX11_readTwo 28 = .ok (.invokevirtual 242, 3) := by decide +kernel
theorem dX11_readTwo_31 : decode cX11_readTwo 31 = .ok (.aload_n 0, 1) := by decide +kernel
theorem dX11_readTwo_32 : decode cX11_readTwo 32 = .ok (.dup, 1) := by decide +kernel
theorem dX11_readTwo_33 : decode cX11_readTwo 33 = .ok (.getfield 163, 3) := by decide +kernel
theorem dX11_readTwo_36 : decode cX11_readTwo 36 = .ok (.iconst 1, 1) := by decide +kernel
theorem dX11_readTwo_37 : decode cX11_readTwo 37 = .ok (.isub, 1) := by decide +kernel
theorem dX11_readTwo_38 : decode cX11_readTwo 38 = .ok (.putfield 163, 3) := by decide +kernel
theorem dX11_readTwo_41 : decode cX11_readTwo 41 = .ok (.aload_n 0, 1) := by decide +kernel
theorem dX11_readTwo_42 : decode cX11_readTwo 42 = .ok (.iload_n 2, 1) := by decide +kernel
theorem dX11_readTwo_43 : decode cX11_readTwo 43 = .ok (.iconst 0, 1) := by decide +kernel
theorem dX11_readTwo_44 : decode cX11_readTwo 44 = .ok (.invokevirtual 255, 3) := by decide +kernel
theorem dX11_readTwo_47 : decode cX11_readTwo 47 = .ok (.return_, 1) := by decide +kernel
theorem dX11_factHere_0 : decode cX11_factHere 0 = .ok (.aload_n 0, 1) := by decide +kernel
theorem dX11_factHere_1 : decode cX11_factHere 1 = .ok (.invokevirtual 227, 3) := by decide +kernel
theorem dX11_factHere_4 : decode cX11_factHere 4 = .ok (.istore_n 1, 1) := by decide +kernel
theorem dX11_factHere_5 : decode cX11_factHere 5 = .ok (.iload_n 1, 1) := by decide +kernel
theorem dX11_factHere_6 : decode cX11_factHere 6 = .ok (.ldc_w 267, 3) := by decide +kernel
theorem dX11_factHere_9 : decode cX11_factHere 9 = .ok (.invokestatic 204, 3) := by decide +kernel
theorem dX11_factHere_12 : decode cX11_factHere 12 = .ok (.if_icmp .ne 7, 3) := by decide +kernel
theorem dX11_factHere_15 : decode cX11_factHere 15 = .ok (.iconst 0, 1) := by decide +kernel
theorem dX11_factHere_16 : decode cX11_factHere 16 = .ok (.goto 104, 3) := by decide +kernel
theorem dX11_factHere_19 : decode cX11_factHere 19 = .ok (.iload_n 1, 1) := by decide +kernel
theorem dX11_factHere_20 : decode cX11_factHere 20 = .ok (.ldc_w 269, 3) := by decide +kernel
theorem dX11_factHere_23 : decode cX11_factHere 23 = .ok (.invokestatic 204, 3) := by decide +kernel
theorem dX11_factHere_26 : decode cX11_factHere 26 = .ok (.if_icmp .ne 7, 3) := by decide +kernel
theorem dX11_factHere_29 : decode cX11_factHere 29 = .ok (.iconst 1, 1) := by decide +kernel
theorem dX11_factHere_30 : decode cX11_factHere 30 = .ok (.goto 90, 3) := by decide +kernel
theorem dX11_factHere_33 : decode cX11_factHere 33 = .ok (.iload_n 1, 1) := by decide +kernel
theorem dX11_factHere_34 : decode cX11_factHere 34 = .ok (.ldc_w 271, 3) := by decide +kernel
theorem dX11_factHere_37 : decode cX11_factHere 37 = .ok (.invokestatic 204, 3) := by decide +kernel
theorem dX11_factHere_40 : decode cX11_factHere 40 = .ok (.if_icmp .ne 7, 3) := by decide +kernel
theorem dX11_factHere_43 : decode cX11_factHere 43 = .ok (.iconst 2, 1) := by decide +kernel
theorem dX11_factHere_44 : decode cX11_factHere 44 = .ok (.goto 76, 3) := by decide +kernel
theorem dX11_factHere_47 : decode cX11_factHere 47 = .ok (.iload_n 1, 1) := by decide +kernel
theorem dX11_factHere_48 : decode cX11_factHere 48 = .ok (.ldc_w 273, 3) := by decide +kernel
theorem dX11_factHere_51 : decode cX11_factHere 51 = .ok (.invokestatic 204, 3) := by decide +kernel
theorem dX11_factHere_54 : decode cX11_factHere 54 = .ok (.if_icmp .ne 7, 3) := by decide +kernel
theorem dX11_factHere_57 : decode cX11_factHere 57 = .ok (.iconst 3, 1) := by decide +kernel
theorem dX11_factHere_58 : decode cX11_factHere 58 = .ok (.goto 62, 3) := by decide +kernel
theorem dX11_factHere_61 : decode cX11_factHere 61 = .ok (.iload_n 1, 1) := by decide +kernel
theorem dX11_factHere_62 : decode cX11_factHere 62 = .ok (.ldc_w 274, 3) := by decide +kernel
theorem dX11_factHere_65 : decode cX11_factHere 65 = .ok (.invokestatic 204, 3) := by decide +kernel
theorem dX11_factHere_68 : decode cX11_factHere 68 = .ok (.if_icmp .ne 7, 3) := by decide +kernel
theorem dX11_factHere_71 : decode cX11_factHere 71 = .ok (.iconst 4, 1) := by decide +kernel
theorem dX11_factHere_72 : decode cX11_factHere 72 = .ok (.goto 48, 3) := by decide +kernel
theorem dX11_factHere_75 : decode cX11_factHere 75 = .ok (.iload_n 1, 1) := by decide +kernel
theorem dX11_factHere_76 : decode cX11_factHere 76 = .ok (.ldc_w 276, 3) := by decide +kernel
theorem dX11_factHere_79 : decode cX11_factHere 79 = .ok (.invokestatic 204, 3) := by decide +kernel
theorem dX11_factHere_82 : decode cX11_factHere 82 = .ok (.if_icmp .ne 7, 3) := by decide +kernel
theorem dX11_factHere_85 : decode cX11_factHere 85 = .ok (.iconst 5, 1) := by decide +kernel
theorem dX11_factHere_86 : decode cX11_factHere 86 = .ok (.goto 34, 3) := by decide +kernel
theorem dX11_factHere_89 : decode cX11_factHere 89 = .ok (.iload_n 1, 1) := by decide +kernel
theorem dX11_factHere_90 : decode cX11_factHere 90 = .ok (.ldc_w 278, 3) := by decide +kernel
theorem dX11_factHere_93 : decode cX11_factHere 93 = .ok (.invokestatic 204, 3) := by decide +kernel
theorem dX11_factHere_96 : decode cX11_factHere 96 = .ok (.if_icmp .ne 8, 3) := by decide +kernel
theorem dX11_factHere_99 : decode cX11_factHere 99 = .ok (.bipush 6, 2) := by decide +kernel
theorem dX11_factHere_101 : decode cX11_factHere 101 = .ok (.goto 19, 3) := by decide +kernel
theorem dX11_factHere_104 : decode cX11_factHere 104 = .ok (.iload_n 1, 1) := by decide +kernel
theorem dX11_factHere_105 : decode cX11_factHere 105 = .ok (.ldc_w 280, 3) := by decide +kernel
theorem dX11_factHere_108 : decode cX11_factHere 108 = .ok (.invokestatic 204, 3) := by decide +kernel
theorem dX11_factHere_111 : decode cX11_factHere 111 = .ok (.if_icmp .ne 8, 3) := by decide +kernel
theorem dX11_factHere_114 : decode cX11_factHere 114 = .ok (.bipush 7, 2) := by decide +kernel
theorem dX11_factHere_116 : decode cX11_factHere 116 = .ok (.goto 4, 3) := by decide +kernel
theorem dX11_factHere_119 : decode cX11_factHere 119 = .ok (.iconst (-1), 1) := by decide +kernel
theorem dX11_factHere_120 : decode cX11_factHere 120 = .ok (.ireturn, 1) := by decide +kernel
theorem dX11_readUnit_0 : decode cX11_readUnit 0 = .ok (.aload_n 0, 1) := by decide +kernel
theorem dX11_readUnit_1 : decode cX11_readUnit 1 = .ok (.invokevirtual 152, 3) := by decide +kernel
theorem dX11_readUnit_4 : decode cX11_readUnit 4 = .ok (.ifCond .ne 4, 3) := by decide +kernel
theorem dX11_readUnit_7 : decode cX11_readUnit 7 = .ok (.return_, 1) := by decide +kernel
theorem dX11_readUnit_8 : decode cX11_readUnit 8 = .ok (.aload_n 0, 1) := by decide +kernel
theorem dX11_readUnit_9 : decode cX11_readUnit 9 = .ok (.invokevirtual 135, 3) := by decide +kernel
theorem dX11_readUnit_12 : decode cX11_readUnit 12 = .ok (.bipush 40, 2) := by decide +kernel
theorem dX11_readUnit_14 : decode cX11_readUnit 14 = .ok (.if_icmp .ne 31, 3) := by decide +kernel
theorem dX11_readUnit_17 : decode cX11_readUnit 17 = .ok (.aload_n 0, 1) := by decide +kernel
theorem dX11_readUnit_18 : decode cX11_readUnit 18 = .ok (.iconst 1, 1) := by decide +kernel
theorem dX11_readUnit_19 : decode cX11_readUnit 19 = .ok (.invokevirtual 261, 3) := by decide +kernel
theorem dX11_readUnit_22 : decode cX11_readUnit 22 = .ok (.aload_n 0, 1) := by decide +kernel
theorem dX11_readUnit_23 : decode cX11_readUnit 23 = .ok (.invokevirtual 264, 3) := by decide +kernel
theorem dX11_readUnit_26 : decode cX11_readUnit 26 = .ok (.aload_n 0, 1) := by decide +kernel
theorem dX11_readUnit_27 : decode cX11_readUnit 27 = .ok (.bipush 41, 2) := by decide +kernel
theorem dX11_readUnit_29 : decode cX11_readUnit 29 = .ok (.invokevirtual 242, 3) := by decide +kernel
theorem dX11_readUnit_32 : decode cX11_readUnit 32 = .ok (.aload_n 0, 1) := by decide +kernel
theorem dX11_readUnit_33 : decode cX11_readUnit 33 = .ok (.dup, 1) := by decide +kernel
theorem dX11_readUnit_34 : decode cX11_readUnit 34 = .ok (.getfield 163, 3) := by decide +kernel
theorem dX11_readUnit_37 : decode cX11_readUnit 37 = .ok (.iconst 1, 1) := by decide +kernel
theorem dX11_readUnit_38 : decode cX11_readUnit 38 = .ok (.isub, 1) := by decide +kernel
theorem dX11_readUnit_39 : decode cX11_readUnit 39 = .ok (.putfield 163, 3) := by decide +kernel
theorem dX11_readUnit_42 : decode cX11_readUnit 42 = .ok (.goto 112, 3) := by decide +kernel
theorem dX11_readUnit_45 : decode cX11_readUnit 45 = .ok (.aload_n 0, 1) := by decide +kernel
theorem dX11_readUnit_46 : decode cX11_readUnit 46 = .ok (.invokevirtual 135, 3) := by decide +kernel
theorem dX11_readUnit_49 : decode cX11_readUnit 49 = .ok (.invokestatic 156, 3) := by decide +kernel
theorem dX11_readUnit_52 : decode cX11_readUnit 52 = .ok (.ifCond .eq 19, 3) := by decide +kernel
theorem dX11_readUnit_55 : decode cX11_readUnit 55 = .ok (.aload_n 0, 1) := by decide +kernel
theorem dX11_readUnit_56 : decode cX11_readUnit 56 = .ok (.iconst 0, 1) := by decide +kernel
theorem dX11_readUnit_57 : decode cX11_readUnit 57 = .ok (.aload_n 0, 1) := by decide +kernel
theorem dX11_readUnit_58 : decode cX11_readUnit 58 = .ok (.iconst 0, 1) := by decide +kernel
theorem dX11_readUnit_59 : decode cX11_readUnit 59 = .ok (.sipush 999, 3) := by decide +kernel
theorem dX11_readUnit_62 : decode cX11_readUnit 62 = .ok (.invokevirtual 212, 3) := by decide +kernel
theorem dX11_readUnit_65 : decode cX11_readUnit 65 = .ok (.invokevirtual 255, 3) := by decide +kernel
theorem dX11_readUnit_68 : decode cX11_readUnit 68 = .ok (.goto 86, 3) := by decide +kernel
theorem dX11_readUnit_71 : decode cX11_readUnit 71 = .ok (.aload_n 0, 1) := by decide +kernel
theorem dX11_readUnit_72 : decode cX11_readUnit 72 = .ok (.invokevirtual 227, 3) := by decide +kernel
theorem dX11_readUnit_75 : decode cX11_readUnit 75 = .ok (.ldc_w 282, 3) := by decide +kernel
theorem dX11_readUnit_78 : decode cX11_readUnit 78 = .ok (.invokestatic 204, 3) := by decide +kernel
theorem dX11_readUnit_81 : decode cX11_readUnit 81 = .ok (.if_icmp .ne 13, 3) := by decide +kernel
theorem dX11_readUnit_84 : decode cX11_readUnit 84 = .ok (.aload_n 0, 1) := by decide +kernel
theorem dX11_readUnit_85 : decode cX11_readUnit 85 = .ok (.iconst 5, 1) := by decide +kernel
theorem dX11_readUnit_86 : decode cX11_readUnit 86 = .ok (.bipush 6, 2) := by decide +kernel
theorem dX11_readUnit_88 : decode cX11_readUnit 88 = .ok (.invokevirtual 284, 3) := by decide +kernel
theorem dX11_readUnit_91 : decode cX11_readUnit 91 = .ok (.goto 63, 3) := by decide +kernel
theorem dX11_readUnit_94 : decode cX11_readUnit 94 = .ok (.aload_n 0, 1) := by decide +kernel
theorem dX11_readUnit_95 : decode cX11_readUnit 95 = .ok (.invokevirtual 227, 3) := by decide +kernel
theorem dX11_readUnit_98 : decode cX11_readUnit 98 = .ok (.ldc_w 287, 3) := by decide +kernel
theorem dX11_readUnit_101 : decode cX11_readUnit 101 = .ok (.invokestatic 204, 3) := by decide +kernel
theorem dX11_readUnit_104 : decode cX11_readUnit 104 = .ok (.if_icmp .ne 13, 3) := by decide +kernel
theorem dX11_readUnit_107 : decode cX11_readUnit 107 = .ok (.aload_n 0, 1) := by decide +kernel
theorem dX11_readUnit_108 : decode cX11_readUnit 108 = .ok (.iconst 4, 1) := by decide +kernel
theorem dX11_readUnit_109 : decode cX11_readUnit 109 = .ok (.bipush 7, 2) := by decide +kernel
theorem dX11_readUnit_111 : decode cX11_readUnit 111 = .ok (.invokevirtual 284, 3) := by decide +kernel
theorem dX11_readUnit_114 : decode cX11_readUnit 114 = .ok (.goto 40, 3) := by decide +kernel
theorem dX11_readUnit_117 : decode cX11_readUnit 117 = .ok (.aload_n 0, 1) := by decide +kernel
theorem dX11_readUnit_118 : decode cX11_readUnit 118 = .ok (.invokevirtual 289, 3) := by decide +kernel
theorem dX11_readUnit_121 : decode cX11_readUnit 121 = .ok (.istore_n 1, 1) := by decide +kernel
theorem dX11_readUnit_122 : decode cX11_readUnit 122 = .ok (.iload_n 1, 1) := by decide +kernel
theorem dX11_readUnit_123 : decode cX11_readUnit 123 = .ok (.iconst (-1), 1) := by decide +kernel
theorem dX11_readUnit_124 : decode cX11_readUnit 124 = .ok (.if_icmp .ne 12, 3) := by decide +kernel
theorem dX11_readUnit_127 : decode cX11_readUnit 127 = .ok (.aload_n 0, 1) := by decide +kernel
theorem dX11_readUnit_128 : decode cX11_readUnit 128 = .ok (.iconst 1, 1) := by decide +kernel
theorem dX11_readUnit_129 : decode cX11_readUnit 129 = .ok (.aload_n 0, 1) := by decide +kernel
theorem dX11_readUnit_130 : decode cX11_readUnit 130 = .ok (.getfield 129, 3) := by decide +kernel
theorem dX11_readUnit_133 : decode cX11_readUnit 133 = .ok (.invokevirtual 159, 3) := by decide +kernel
theorem dX11_readUnit_136 : decode cX11_readUnit 136 = .ok (.aload_n 0, 1) := by decide +kernel
theorem dX11_readUnit_137 : decode cX11_readUnit 137 = .ok (.invokevirtual 152, 3) := by decide +kernel
theorem dX11_readUnit_140 : decode cX11_readUnit 140 = .ok (.ifCond .ne 4, 3) := by decide +kernel
theorem dX11_readUnit_143 : decode cX11_readUnit 143 = .ok (.return_, 1) := by decide +kernel
theorem dX11_readUnit_144 : decode cX11_readUnit 144 = .ok (.aload_n 0, 1) := by decide +kernel
theorem dX11_readUnit_145 : decode cX11_readUnit 145 = .ok (.invokevirtual 236, 3) := by decide +kernel
theorem dX11_readUnit_148 : decode cX11_readUnit 148 = .ok (.aload_n 0, 1) := by decide +kernel
theorem dX11_readUnit_149 : decode cX11_readUnit 149 = .ok (.iconst 1, 1) := by decide +kernel
theorem dX11_readUnit_150 : decode cX11_readUnit 150 = .ok (.iload_n 1, 1) := by decide +kernel
theorem dX11_readUnit_151 : decode cX11_readUnit 151 = .ok (.invokevirtual 255, 3) := by decide +kernel
theorem dX11_readUnit_154 : decode cX11_readUnit 154 = .ok (.return_, 1) := by decide +kernel
theorem dX11_law_0 : decode cX11_law 0 = .ok (.aload_n 0, 1) := by decide +kernel
theorem dX11_law_1 : decode cX11_law 1 = .ok (.iconst 0, 1) := by decide +kernel
theorem dX11_law_2 : decode cX11_law 2 = .ok (.putfield 3, 3) := by decide +kernel
theorem dX11_law_5 : decode cX11_law 5 = .ok (.aload_n 0, 1) := by decide +kernel
theorem dX11_law_6 : decode cX11_law 6 = .ok (.iload_n 1, 1) := by decide +kernel
theorem dX11_law_7 : decode cX11_law 7 = .ok (.ifCond .lt 22, 3) := by decide +kernel
theorem dX11_law_10 : decode cX11_law 10 = .ok (.iload_n 1, 1) := by decide +kernel
theorem dX11_law_11 : decode cX11_law 11 = .ok (.aload_n 0, 1) := by decide +kernel
theorem dX11_law_12 : decode cX11_law 12 = .ok (.getfield 120, 3) := by decide +kernel
theorem dX11_law_15 : decode cX11_law 15 = .ok (.if_icmp .gt 14, 3) := by decide +kernel
theorem dX11_law_18 : decode cX11_law 18 = .ok (.iload_n 1, 1) := by decide +kernel
theorem dX11_law_19 : decode cX11_law 19 = .ok (.sipush 150, 3) := by decide +kernel
theorem dX11_law_22 : decode cX11_law 22 = .ok (.if_icmp .gt 7, 3) := by decide +kernel
theorem dX11_law_25 : decode cX11_law 25 = .ok (.iconst 1, 1) := by decide +kernel
theorem dX11_law_26 : decode cX11_law 26 = .ok (.goto 4, 3) := by decide +kernel
theorem dX11_law_29 : decode cX11_law 29 = .ok (.iconst 0, 1) := by decide +kernel
theorem dX11_law_30 : decode cX11_law 30 = .ok (.iconst 1, 1) := by decide +kernel
theorem dX11_law_31 : decode cX11_law 31 = .ok (.iconst 1, 1) := by decide +kernel
theorem dX11_law_32 : decode cX11_law 32 = .ok (.invokevirtual 216, 3) := by decide +kernel
theorem dX11_law_35 : decode cX11_law 35 = .ok (.ifCond .ne 5, 3) := by decide +kernel
theorem dX11_law_38 : decode cX11_law 38 = .ok (.iconst 0, 1) := by decide +kernel
theorem dX11_law_39 : decode cX11_law 39 = .ok (.ireturn, 1) := by decide +kernel
theorem dX11_law_40 : decode cX11_law 40 = .ok (.aload_n 0, 1) := by decide +kernel
theorem dX11_law_41 : decode cX11_law 41 = .ok (.iload_n 1, 1) := by decide +kernel
theorem dX11_law_42 : decode cX11_law 42 = .ok (.invokevirtual 220, 3) := by decide +kernel
theorem dX11_law_45 : decode cX11_law 45 = .ok (.aload_n 0, 1) := by decide +kernel
theorem dX11_law_46 : decode cX11_law 46 = .ok (.iconst 0, 1) := by decide +kernel
theorem dX11_law_47 : decode cX11_law 47 = .ok (.putfield 249, 3) := by decide +kernel
theorem dX11_law_50 : decode cX11_law 50 = .ok (.aload_n 0, 1) := by decide +kernel
theorem dX11_law_51 : decode cX11_law 51 = .ok (.invokevirtual 264, 3) := by decide +kernel
theorem dX11_law_54 : decode cX11_law 54 = .ok (.aload_n 0, 1) := by decide +kernel
theorem dX11_law_55 : decode cX11_law 55 = .ok (.invokevirtual 152, 3) := by decide +kernel
theorem dX11_law_58 : decode cX11_law 58 = .ok (.ifCond .eq 19, 3) := by decide +kernel
theorem dX11_law_61 : decode cX11_law 61 = .ok (.aload_n 0, 1) := by decide +kernel
theorem dX11_law_62 : decode cX11_law 62 = .ok (.invokevirtual 224, 3) := by decide +kernel
theorem dX11_law_65 : decode cX11_law 65 = .ok (.ifCond .eq 12, 3) := by decide +kernel
theorem dX11_law_68 : decode cX11_law 68 = .ok (.aload_n 0, 1) := by decide +kernel
theorem dX11_law_69 : decode cX11_law 69 = .ok (.iconst 1, 1) := by decide +kernel
theorem dX11_law_70 : decode cX11_law 70 = .ok (.aload_n 0, 1) := by decide +kernel
theorem dX11_law_71 : decode cX11_law 71 = .ok (.getfield 129, 3) := by decide +kernel
theorem dX11_law_74 : decode cX11_law 74 = .ok (.invokevirtual 159, 3) := by decide +kernel
theorem dX11_law_77 : decode cX11_law 77 = .ok (.aload_n 0, 1) := by decide +kernel
theorem dX11_law_78 : decode cX11_law 78 = .ok (.iconst 1, 1) := by decide +kernel
theorem dX11_law_79 : decode cX11_law 79 = .ok (.invokevirtual 245, 3) := by decide +kernel
theorem dX11_law_82 : decode cX11_law 82 = .ok (.istore_n 2, 1) := by decide +kernel
theorem dX11_law_83 : decode cX11_law 83 = .ok (.aload_n 0, 1) := by decide +kernel
theorem dX11_law_84 : decode cX11_law 84 = .ok (.getfield 123, 3) := by decide +kernel
theorem dX11_law_87 : decode cX11_law 87 = .ok (.iconst (-1), 1) := by decide +kernel
theorem dX11_law_88 : decode cX11_law 88 = .ok (.if_icmp .eq 5, 3) := by decide +kernel
theorem dX11_law_91 : decode cX11_law 91 = .ok (.iload_n 2, 1) := by decide +kernel
theorem dX11_law_92 : decode cX11_law 92 = .ok (.ireturn, 1) := by decide +kernel
