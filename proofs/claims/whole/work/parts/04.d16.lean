theorem dX11_law_93 : decode cX11_law 93 = .ok (.aload_n 0, 1) := by decide +kernel
theorem dX11_law_94 : decode cX11_law 94 = .ok (.aload_n 0, 1) := by decide +kernel
theorem dX11_law_95 : decode cX11_law 95 = .ok (.getfield 249, 3) := by decide +kernel
theorem dX11_law_98 : decode cX11_law 98 = .ok (.putfield 188, 3) := by decide +kernel
theorem dX11_law_101 : decode cX11_law 101 = .ok (.aload_n 0, 1) := by decide +kernel
theorem dX11_law_102 : decode cX11_law 102 = .ok (.aload_n 0, 1) := by decide +kernel
theorem dX11_law_103 : decode cX11_law 103 = .ok (.getfield 47, 3) := by decide +kernel
theorem dX11_law_106 : decode cX11_law 106 = .ok (.aload_n 0, 1) := by decide +kernel
theorem dX11_law_107 : decode cX11_law 107 = .ok (.getfield 53, 3) := by decide +kernel
theorem dX11_law_110 : decode cX11_law 110 = .ok (.aload_n 0, 1) := by decide +kernel
theorem dX11_law_111 : decode cX11_law 111 = .ok (.getfield 249, 3) := by decide +kernel
theorem dX11_law_114 : decode cX11_law 114 = .ok (.invokevirtual 184, 3) := by decide +kernel
theorem dX11_law_117 : decode cX11_law 117 = .ok (.aload_n 0, 1) := by decide +kernel
theorem dX11_law_118 : decode cX11_law 118 = .ok (.aload_n 0, 1) := by decide +kernel
theorem dX11_law_119 : decode cX11_law 119 = .ok (.getfield 50, 3) := by decide +kernel
theorem dX11_law_122 : decode cX11_law 122 = .ok (.aload_n 0, 1) := by decide +kernel
theorem dX11_law_123 : decode cX11_law 123 = .ok (.getfield 56, 3) := by decide +kernel
theorem dX11_law_126 : decode cX11_law 126 = .ok (.aload_n 0, 1) := by decide +kernel
theorem dX11_law_127 : decode cX11_law 127 = .ok (.getfield 249, 3) := by decide +kernel
theorem dX11_law_130 : decode cX11_law 130 = .ok (.invokevirtual 184, 3) := by decide +kernel
theorem dX11_law_133 : decode cX11_law 133 = .ok (.iload_n 2, 1) := by decide +kernel
theorem dX11_law_134 : decode cX11_law 134 = .ok (.ireturn, 1) := by decide +kernel
theorem dX11_valueNow_0 : decode cX11_valueNow 0 = .ok (.iconst 0, 1) := by decide +kernel
theorem dX11_valueNow_1 : decode cX11_valueNow 1 = .ok (.istore_n 1, 1) := by decide +kernel
theorem dX11_valueNow_2 : decode cX11_valueNow 2 = .ok (.iconst 0, 1) := by decide +kernel
theorem dX11_valueNow_3 : decode cX11_valueNow 3 = .ok (.istore_n 2, 1) := by decide +kernel
theorem dX11_valueNow_4 : decode cX11_valueNow 4 = .ok (.iload_n 2, 1) := by decide +kernel
theorem dX11_valueNow_5 : decode cX11_valueNow 5 = .ok (.aload_n 0, 1) := by decide +kernel
theorem dX11_valueNow_6 : decode cX11_valueNow 6 = .ok (.getfield 188, 3) := by decide +kernel
theorem dX11_valueNow_9 : decode cX11_valueNow 9 = .ok (.if_icmp .ge 86, 3) := by decide +kernel
theorem dX11_valueNow_12 : decode cX11_valueNow 12 = .ok (.aload_n 0, 1) := by decide +kernel
theorem dX11_valueNow_13 : decode cX11_valueNow 13 = .ok (.getfield 53, 3) := by decide +kernel
theorem dX11_valueNow_16 : decode cX11_valueNow 16 = .ok (.iload_n 2, 1) := by decide +kernel
theorem dX11_valueNow_17 : decode cX11_valueNow 17 = .ok (.iaload, 1) := by decide +kernel
theorem dX11_valueNow_18 : decode cX11_valueNow 18 = .ok (.istore_n 3, 1) := by decide +kernel
theorem dX11_valueNow_19 : decode cX11_valueNow 19 = .ok (.iload_n 3, 1) := by decide +kernel
theorem dX11_valueNow_20 : decode cX11_valueNow 20 = .ok (.iconst 1, 1) := by decide +kernel
theorem dX11_valueNow_21 : decode cX11_valueNow 21 = .ok (.if_icmp .gt 39, 3) := by decide +kernel
theorem dX11_valueNow_24 : decode cX11_valueNow 24 = .ok (.aload_n 0, 1) := by decide +kernel
theorem dX11_valueNow_25 : decode cX11_valueNow 25 = .ok (.getfield 59, 3) := by decide +kernel
theorem dX11_valueNow_28 : decode cX11_valueNow 28 = .ok (.iload_n 1, 1) := by decide +kernel
theorem dX11_valueNow_29 : decode cX11_valueNow 29 = .ok (.iload_n 3, 1) := by decide +kernel
theorem dX11_valueNow_30 : decode cX11_valueNow 30 = .ok (.ifCond .ne 12, 3) := by decide +kernel
theorem dX11_valueNow_33 : decode cX11_valueNow 33 = .ok (.aload_n 0, 1) := by decide +kernel
theorem dX11_valueNow_34 : decode cX11_valueNow 34 = .ok (.getfield 56, 3) := by decide +kernel
theorem dX11_valueNow_37 : decode cX11_valueNow 37 = .ok (.iload_n 2, 1) := by decide +kernel
theorem dX11_valueNow_38 : decode cX11_valueNow 38 = .ok (.iaload, 1) := by decide +kernel
theorem dX11_valueNow_39 : decode cX11_valueNow 39 = .ok (.goto 14, 3) := by decide +kernel
theorem dX11_valueNow_42 : decode cX11_valueNow 42 = .ok (.aload_n 0, 1) := by decide +kernel
theorem dX11_valueNow_43 : decode cX11_valueNow 43 = .ok (.getfield 62, 3) := by decide +kernel
theorem dX11_valueNow_46 : decode cX11_valueNow 46 = .ok (.aload_n 0, 1) := by decide +kernel
theorem dX11_valueNow_47 : decode cX11_valueNow 47 = .ok (.getfield 56, 3) := by decide +kernel
theorem dX11_valueNow_50 : decode cX11_valueNow 50 = .ok (.iload_n 2, 1) := by decide +kernel
theorem dX11_valueNow_51 : decode cX11_valueNow 51 = .ok (.iaload, 1) := by decide +kernel
theorem dX11_valueNow_52 : decode cX11_valueNow 52 = .ok (.iaload, 1) := by decide +kernel
theorem dX11_valueNow_53 : decode cX11_valueNow 53 = .ok (.iastore, 1) := by decide +kernel
theorem dX11_valueNow_54 : decode cX11_valueNow 54 = .ok (.iinc 1 1, 3) := by decide +kernel
theorem dX11_valueNow_57 : decode cX11_valueNow 57 = .ok (.goto 32, 3) := by decide +kernel
theorem dX11_valueNow_60 : decode cX11_valueNow 60 = .ok (.iinc 1 (-1), 3) := by decide +kernel
theorem dX11_valueNow_63 : decode cX11_valueNow 63 = .ok (.aload_n 0, 1) := by decide +kernel
theorem dX11_valueNow_64 : decode cX11_valueNow 64 = .ok (.getfield 59, 3) := by decide +kernel
theorem dX11_valueNow_67 : decode cX11_valueNow 67 = .ok (.iload_n 1, 1) := by decide +kernel
theorem dX11_valueNow_68 : decode cX11_valueNow 68 = .ok (.iconst 1, 1) := by decide +kernel
theorem dX11_valueNow_69 : decode cX11_valueNow 69 = .ok (.isub, 1) := by decide +kernel
theorem dX11_valueNow_70 : decode cX11_valueNow 70 = .ok (.iload_n 3, 1) := by decide +kernel
theorem dX11_valueNow_71 : decode cX11_valueNow 71 = .ok (.aload_n 0, 1) := by decide +kernel
theorem dX11_valueNow_72 : decode cX11_valueNow 72 = .ok (.getfield 59, 3) := by decide +kernel
theorem dX11_valueNow_75 : decode cX11_valueNow 75 = .ok (.iload_n 1, 1) := by decide +kernel
theorem dX11_valueNow_76 : decode cX11_valueNow 76 = .ok (.iconst 1, 1) := by decide +kernel
theorem dX11_valueNow_77 : decode cX11_valueNow 77 = .ok (.isub, 1) := by decide +kernel
theorem dX11_valueNow_78 : decode cX11_valueNow 78 = .ok (.iaload, 1) := by decide +kernel
theorem dX11_valueNow_79 : decode cX11_valueNow 79 = .ok (.aload_n 0, 1) := by decide +kernel
theorem dX11_valueNow_80 : decode cX11_valueNow 80 = .ok (.getfield 59, 3) := by decide +kernel
theorem dX11_valueNow_83 : decode cX11_valueNow 83 = .ok (.iload_n 1, 1) := by decide +kernel
theorem dX11_valueNow_84 : decode cX11_valueNow 84 = .ok (.iaload, 1) := by decide +kernel
theorem dX11_valueNow_85 : decode cX11_valueNow 85 = .ok (.invokestatic 292, 3) := by decide +kernel
theorem dX11_valueNow_88 : decode cX11_valueNow 88 = .ok (.iastore, 1) := by decide +kernel
theorem dX11_valueNow_89 : decode cX11_valueNow 89 = .ok (.iinc 2 1, 3) := by decide +kernel
theorem dX11_valueNow_92 : decode cX11_valueNow 92 = .ok (.goto (-88), 3) := by decide +kernel
theorem dX11_valueNow_95 : decode cX11_valueNow 95 = .ok (.aload_n 0, 1) := by decide +kernel
theorem dX11_valueNow_96 : decode cX11_valueNow 96 = .ok (.getfield 59, 3) := by decide +kernel
theorem dX11_valueNow_99 : decode cX11_valueNow 99 = .ok (.iconst 0, 1) := by decide +kernel
theorem dX11_valueNow_100 : decode cX11_valueNow 100 = .ok (.iaload, 1) := by decide +kernel
theorem dX11_valueNow_101 : decode cX11_valueNow 101 = .ok (.ireturn, 1) := by decide +kernel
theorem dX11_both_0 : decode cX11_both 0 = .ok (.iload_n 0, 1) := by decide +kernel
theorem dX11_both_1 : decode cX11_both 1 = .ok (.iconst 2, 1) := by decide +kernel
theorem dX11_both_2 : decode cX11_both 2 = .ok (.if_icmp .ne 7, 3) := by decide +kernel
theorem dX11_both_5 : decode cX11_both 5 = .ok (.iload_n 1, 1) := by decide +kernel
theorem dX11_both_6 : decode cX11_both 6 = .ok (.iload_n 2, 1) := by decide +kernel
theorem dX11_both_7 : decode cX11_both 7 = .ok (.iadd, 1) := by decide +kernel
theorem dX11_both_8 : decode cX11_both 8 = .ok (.ireturn, 1) := by decide +kernel
theorem dX11_both_9 : decode cX11_both 9 = .ok (.iload_n 0, 1) := by decide +kernel
theorem dX11_both_10 : decode cX11_both 10 = .ok (.iconst 3, 1) := by decide +kernel
theorem dX11_both_11 : decode cX11_both 11 = .ok (.if_icmp .ne 7, 3) := by decide +kernel
theorem dX11_both_14 : decode cX11_both 14 = .ok (.iload_n 1, 1) := by decide +kernel
theorem dX11_both_15 : decode cX11_both 15 = .ok (.iload_n 2, 1) := by decide +kernel
theorem dX11_both_16 : decode cX11_both 16 = .ok (.isub, 1) := by decide +kernel
theorem dX11_both_17 : decode cX11_both 17 = .ok (.ireturn, 1) := by decide +kernel
theorem dX11_both_18 : decode cX11_both 18 = .ok (.iload_n 0, 1) := by decide +kernel
theorem dX11_both_19 : decode cX11_both 19 = .ok (.iconst 4, 1) := by decide +kernel
theorem dX11_both_20 : decode cX11_both 20 = .ok (.if_icmp .ne 7, 3) := by decide +kernel
theorem dX11_both_23 : decode cX11_both 23 = .ok (.iload_n 1, 1) := by decide +kernel
theorem dX11_both_24 : decode cX11_both 24 = .ok (.iload_n 2, 1) := by decide +kernel
theorem dX11_both_25 : decode cX11_both 25 = .ok (.imul, 1) := by decide +kernel
theorem dX11_both_26 : decode cX11_both 26 = .ok (.ireturn, 1) := by decide +kernel
theorem dX11_both_27 : decode cX11_both 27 = .ok (.iload_n 0, 1) := by decide +kernel
theorem dX11_both_28 : decode cX11_both 28 = .ok (.iconst 5, 1) := by decide +kernel
theorem dX11_both_29 : decode cX11_both 29 = .ok (.if_icmp .eq 9, 3) := by decide +kernel
theorem dX11_both_32 : decode cX11_both 32 = .ok (.iload_n 0, 1) := by decide +kernel
theorem dX11_both_33 : decode cX11_both 33 = .ok (.bipush 8, 2) := by decide +kernel
theorem dX11_both_35 : decode cX11_both 35 = .ok (.if_icmp .ne 26, 3) := by decide +kernel
theorem dX11_both_38 : decode cX11_both 38 = .ok (.iload_n 2, 1) := by decide +kernel
theorem dX11_both_39 : decode cX11_both 39 = .ok (.ifCond .ne 7, 3) := by decide +kernel
theorem dX11_both_42 : decode cX11_both 42 = .ok (.iconst 0, 1) := by decide +kernel
theorem dX11_both_43 : decode cX11_both 43 = .ok (.goto 17, 3) := by decide +kernel
theorem dX11_both_46 : decode cX11_both 46 = .ok (.iload_n 0, 1) := by decide +kernel
theorem dX11_both_47 : decode cX11_both 47 = .ok (.iconst 5, 1) := by decide +kernel
theorem dX11_both_48 : decode cX11_both 48 = .ok (.if_icmp .ne 9, 3) := by decide +kernel
theorem dX11_both_51 : decode cX11_both 51 = .ok (.iload_n 1, 1) := by decide +kernel
theorem dX11_both_52 : decode cX11_both 52 = .ok (.iload_n 2, 1) := by decide +kernel
theorem dX11_both_53 : decode cX11_both 53 = .ok (.idiv, 1) := by decide +kernel
theorem dX11_both_54 : decode cX11_both 54 = .ok (.goto 6, 3) := by decide +kernel
theorem dX11_both_57 : decode cX11_both 57 = .ok (.iload_n 1, 1) := by decide +kernel
theorem dX11_both_58 : decode cX11_both 58 = .ok (.iload_n 2, 1) := by decide +kernel
theorem dX11_both_59 : decode cX11_both 59 = .ok (.irem, 1) := by decide +kernel
theorem dX11_both_60 : decode cX11_both 60 = .ok (.ireturn, 1) := by decide +kernel
theorem dX11_both_61 : decode cX11_both 61 = .ok (.iload_n 1, 1) := by decide +kernel
theorem dX11_both_62 : decode cX11_both 62 = .ok (.iload_n 2, 1) := by decide +kernel
theorem dX11_both_63 : decode cX11_both 63 = .ok (.if_icmp .ge 7, 3) := by decide +kernel
theorem dX11_both_66 : decode cX11_both 66 = .ok (.iconst 1, 1) := by decide +kernel
theorem dX11_both_67 : decode cX11_both 67 = .ok (.goto 4, 3) := by decide +kernel
theorem dX11_both_70 : decode cX11_both 70 = .ok (.iconst 0, 1) := by decide +kernel
theorem dX11_both_71 : decode cX11_both 71 = .ok (.iload_n 0, 1) := by decide +kernel
theorem dX11_both_72 : decode cX11_both 72 = .ok (.bipush 6, 2) := by decide +kernel
theorem dX11_both_74 : decode cX11_both 74 = .ok (.if_icmp .ne 7, 3) := by decide +kernel
theorem dX11_both_77 : decode cX11_both 77 = .ok (.iconst 1, 1) := by decide +kernel
theorem dX11_both_78 : decode cX11_both 78 = .ok (.goto 4, 3) := by decide +kernel
theorem dX11_both_81 : decode cX11_both 81 = .ok (.iconst 0, 1) := by decide +kernel
theorem dX11_both_82 : decode cX11_both 82 = .ok (.if_icmp .ne 7, 3) := by decide +kernel
theorem dX11_both_85 : decode cX11_both 85 = .ok (.iload_n 1, 1) := by decide +kernel
theorem dX11_both_86 : decode cX11_both 86 = .ok (.goto 4, 3) := by decide +kernel
theorem dX11_both_89 : decode cX11_both 89 = .ok (.iload_n 2, 1) := by decide +kernel
theorem dX11_both_90 : decode cX11_both 90 = .ok (.ireturn, 1) := by decide +kernel
theorem dX11_seaNow_0 : decode cX11_seaNow 0 = .ok (.aload_n 0, 1) := by decide +kernel
theorem dX11_seaNow_1 : decode cX11_seaNow 1 = .ok (.getfield 188, 3) := by decide +kernel
theorem dX11_seaNow_4 : decode cX11_seaNow 4 = .ok (.ifCond .ne 23, 3) := by decide +kernel
theorem dX11_seaNow_7 : decode cX11_seaNow 7 = .ok (.iconst 3, 1) := by decide +kernel
theorem dX11_seaNow_8 : decode cX11_seaNow 8 = .ok (.aload_n 0, 1) := by decide +kernel
theorem dX11_seaNow_9 : decode cX11_seaNow 9 = .ok (.getfield 62, 3) := by decide +kernel
theorem dX11_seaNow_12 : decode cX11_seaNow 12 = .ok (.iconst 0, 1) := by decide +kernel
theorem dX11_seaNow_13 : decode cX11_seaNow 13 = .ok (.iaload, 1) := by decide +kernel
theorem dX11_seaNow_14 : decode cX11_seaNow 14 = .ok (.imul, 1) := by decide +kernel
theorem dX11_seaNow_15 : decode cX11_seaNow 15 = .ok (.iconst 4, 1) := by decide +kernel
theorem dX11_seaNow_16 : decode cX11_seaNow 16 = .ok (.aload_n 0, 1) := by decide +kernel
theorem dX11_seaNow_17 : decode cX11_seaNow 17 = .ok (.getfield 62, 3) := by decide +kernel
theorem dX11_seaNow_20 : decode cX11_seaNow 20 = .ok (.iconst 1, 1) := by decide +kernel
theorem dX11_seaNow_21 : decode cX11_seaNow 21 = .ok (.iaload, 1) := by decide +kernel
theorem dX11_seaNow_22 : decode cX11_seaNow 22 = .ok (.imul, 1) := by decide +kernel
theorem dX11_seaNow_23 : decode cX11_seaNow 23 = .ok (.isub, 1) := by decide +kernel
theorem dX11_seaNow_24 : decode cX11_seaNow 24 = .ok (.goto 7, 3) := by decide +kernel
theorem dX11_seaNow_27 : decode cX11_seaNow 27 = .ok (.aload_n 0, 1) := by decide +kernel
theorem dX11_seaNow_28 : decode cX11_seaNow 28 = .ok (.invokevirtual 296, 3) := by decide +kernel
theorem dX11_seaNow_31 : decode cX11_seaNow 31 = .ok (.istore_n 1, 1) := by decide +kernel
theorem dX11_seaNow_32 : decode cX11_seaNow 32 = .ok (.iload_n 1, 1) := by decide +kernel
theorem dX11_seaNow_33 : decode cX11_seaNow 33 = .ok (.ifCond .ge 7, 3) := by decide +kernel
theorem dX11_seaNow_36 : decode cX11_seaNow 36 = .ok (.iconst 0, 1) := by decide +kernel
theorem dX11_seaNow_37 : decode cX11_seaNow 37 = .ok (.goto 15, 3) := by decide +kernel
theorem dX11_seaNow_40 : decode cX11_seaNow 40 = .ok (.iload_n 1, 1) := by decide +kernel
theorem dX11_seaNow_41 : decode cX11_seaNow 41 = .ok (.bipush 99, 2) := by decide +kernel
theorem dX11_seaNow_43 : decode cX11_seaNow 43 = .ok (.if_icmp .le 8, 3) := by decide +kernel
theorem dX11_seaNow_46 : decode cX11_seaNow 46 = .ok (.bipush 99, 2) := by decide +kernel
theorem dX11_seaNow_48 : decode cX11_seaNow 48 = .ok (.goto 4, 3) := by decide +kernel
theorem dX11_seaNow_51 : decode cX11_seaNow 51 = .ok (.iload_n 1, 1) := by decide +kernel
theorem dX11_seaNow_52 : decode cX11_seaNow 52 = .ok (.ireturn, 1) := by decide +kernel
theorem dX11_tellsStep_0 : decode cX11_tellsStep 0 = .ok (.aload_n 0, 1) := by decide +kernel
theorem dX11_tellsStep_1 : decode cX11_tellsStep 1 = .ok (.invokevirtual 152, 3) := by decide +kernel
theorem dX11_tellsStep_4 : decode cX11_tellsStep 4 = .ok (.ifCond .ne 4, 3) := by decide +kernel
theorem dX11_tellsStep_7 : decode cX11_tellsStep 7 = .ok (.return_, 1) := by decide +kernel
theorem dX11_tellsStep_8 : decode cX11_tellsStep 8 = .ok (.aload_n 0, 1) := by decide +kernel
theorem dX11_tellsStep_9 : decode cX11_tellsStep 9 = .ok (.getfield 65, 3) := by decide +kernel
theorem dX11_tellsStep_12 : decode cX11_tellsStep 12 = .ok (.aload_n 0, 1) := by decide +kernel
theorem dX11_tellsStep_13 : decode cX11_tellsStep 13 = .ok (.getfield 299, 3) := by decide +kernel
theorem dX11_tellsStep_16 : decode cX11_tellsStep 16 = .ok (.iload_n 1, 1) := by decide +kernel
theorem dX11_tellsStep_17 : decode cX11_tellsStep 17 = .ok (.iastore, 1) := by decide +kernel
theorem dX11_tellsStep_18 : decode cX11_tellsStep 18 = .ok (.aload_n 0, 1) := by decide +kernel
theorem dX11_tellsStep_19 : decode cX11_tellsStep 19 = .ok (.getfield 65, 3) := by decide +kernel
theorem dX11_tellsStep_22 : decode cX11_tellsStep 22 = .ok (.aload_n 0, 1) := by decide +kernel
theorem dX11_tellsStep_23 : decode cX11_tellsStep 23 = .ok (.getfield 299, 3) := by decide +kernel
theorem dX11_tellsStep_26 : decode cX11_tellsStep 26 = .ok (.iconst 1, 1) := by decide +kernel
theorem dX11_tellsStep_27 : decode cX11_tellsStep 27 = .ok (.iadd, 1) := by decide +kernel
theorem dX11_tellsStep_28 : decode cX11_tellsStep 28 = .ok (.iload_n 2, 1) := by decide +kernel
theorem dX11_tellsStep_29 : decode cX11_tellsStep 29 = .ok (.iastore, 1) := by decide +kernel
theorem dX11_tellsStep_30 : decode cX11_tellsStep 30 = .ok (.aload_n 0, 1) := by decide +kernel
theorem dX11_tellsStep_31 : decode cX11_tellsStep 31 = .ok (.getfield 65, 3) := by decide +kernel
theorem dX11_tellsStep_34 : decode cX11_tellsStep 34 = .ok (.aload_n 0, 1) := by decide +kernel
theorem dX11_tellsStep_35 : decode cX11_tellsStep 35 = .ok (.getfield 299, 3) := by decide +kernel
theorem dX11_tellsStep_38 : decode cX11_tellsStep 38 = .ok (.iconst 2, 1) := by decide +kernel
theorem dX11_tellsStep_39 : decode cX11_tellsStep 39 = .ok (.iadd, 1) := by decide +kernel
theorem dX11_tellsStep_40 : decode cX11_tellsStep 40 = .ok (.iload_n 3, 1) := by decide +kernel
theorem dX11_tellsStep_41 : decode cX11_tellsStep 41 = .ok (.iastore, 1) := by decide +kernel
theorem dX11_tellsStep_42 : decode cX11_tellsStep 42 = .ok (.aload_n 0, 1) := by decide +kernel
theorem dX11_tellsStep_43 : decode cX11_tellsStep 43 = .ok (.dup, 1) := by decide +kernel
theorem dX11_tellsStep_44 : decode cX11_tellsStep 44 = .ok (.getfield 299, 3) := by decide +kernel
theorem dX11_tellsStep_47 : decode cX11_tellsStep 47 = .ok (.iconst 3, 1) := by decide +kernel
theorem dX11_tellsStep_48 : decode cX11_tellsStep 48 = .ok (.iadd, 1) := by decide +kernel
theorem dX11_tellsStep_49 : decode cX11_tellsStep 49 = .ok (.putfield 299, 3) := by decide +kernel
theorem dX11_tellsStep_52 : decode cX11_tellsStep 52 = .ok (.return_, 1) := by decide +kernel
theorem dX11_readStep_0 : decode cX11_readStep 0 = .ok (.aload_n 0, 1) := by decide +kernel
theorem dX11_readStep_1 : decode cX11_readStep 1 = .ok (.invokevirtual 227, 3) := by decide +kernel
theorem dX11_readStep_4 : decode cX11_readStep 4 = .ok (.istore_n 1, 1) := by decide +kernel
theorem dX11_readStep_5 : decode cX11_readStep 5 = .ok (.iload_n 1, 1) := by decide +kernel
theorem dX11_readStep_6 : decode cX11_readStep 6 = .ok (.ldc_w 280, 3) := by decide +kernel
theorem dX11_readStep_9 : decode cX11_readStep 9 = .ok (.invokestatic 204, 3) := by decide +kernel
theorem dX11_readStep_12 : decode cX11_readStep 12 = .ok (.if_icmp .ne 18, 3) := by decide +kernel
theorem dX11_readStep_15 : decode cX11_readStep 15 = .ok (.aload_n 0, 1) := by decide +kernel
theorem dX11_readStep_16 : decode cX11_readStep 16 = .ok (.invokevirtual 236, 3) := by decide +kernel
theorem dX11_readStep_19 : decode cX11_readStep 19 = .ok (.aload_n 0, 1) := by decide +kernel
theorem dX11_readStep_20 : decode cX11_readStep 20 = .ok (.bipush 6, 2) := by decide +kernel
theorem dX11_readStep_22 : decode cX11_readStep 22 = .ok (.iconst 0, 1) := by decide +kernel
theorem dX11_readStep_23 : decode cX11_readStep 23 = .ok (.iconst 0, 1) := by decide +kernel
theorem dX11_readStep_24 : decode cX11_readStep 24 = .ok (.invokevirtual 302, 3) := by decide +kernel
theorem dX11_readStep_27 : decode cX11_readStep 27 = .ok (.goto 318, 3) := by decide +kernel
theorem dX11_readStep_30 : decode cX11_readStep 30 = .ok (.iload_n 1, 1) := by decide +kernel
theorem dX11_readStep_31 : decode cX11_readStep 31 = .ok (.ldc_w 306, 3) := by decide +kernel
theorem dX11_readStep_34 : decode cX11_readStep 34 = .ok (.invokestatic 204, 3) := by decide +kernel
theorem dX11_readStep_37 : decode cX11_readStep 37 = .ok (.if_icmp .eq 13, 3) := by decide +kernel
theorem dX11_readStep_40 : decode cX11_readStep 40 = .ok (.iload_n 1, 1) := by decide +kernel
theorem dX11_readStep_41 : decode cX11_readStep 41 = .ok (.ldc_w 308, 3) := by decide +kernel
theorem dX11_readStep_44 : decode cX11_readStep 44 = .ok (.invokestatic 204, 3) := by decide +kernel
theorem dX11_readStep_47 : decode cX11_readStep 47 = .ok (.if_icmp .ne 70, 3) := by decide +kernel
theorem dX11_readStep_50 : decode cX11_readStep 50 = .ok (.aload_n 0, 1) := by decide +kernel
theorem dX11_readStep_51 : decode cX11_readStep 51 = .ok (.invokevirtual 236, 3) := by decide +kernel
theorem dX11_readStep_54 : decode cX11_readStep 54 = .ok (.aload_n 0, 1) := by decide +kernel
theorem dX11_readStep_55 : decode cX11_readStep 55 = .ok (.iconst 0, 1) := by decide +kernel
theorem dX11_readStep_56 : decode cX11_readStep 56 = .ok (.aload_n 0, 1) := by decide +kernel
theorem dX11_readStep_57 : decode cX11_readStep 57 = .ok (.getfield 181, 3) := by decide +kernel
theorem dX11_readStep_60 : decode cX11_readStep 60 = .ok (.iconst 1, 1) := by decide +kernel
theorem dX11_readStep_61 : decode cX11_readStep 61 = .ok (.isub, 1) := by decide +kernel
theorem dX11_readStep_62 : decode cX11_readStep 62 = .ok (.invokevirtual 212, 3) := by decide +kernel
theorem dX11_readStep_65 : decode cX11_readStep 65 = .ok (.istore_n 2, 1) := by decide +kernel
theorem dX11_readStep_66 : decode cX11_readStep 66 = .ok (.aload_n 0, 1) := by decide +kernel
theorem dX11_readStep_67 : decode cX11_readStep 67 = .ok (.iload_n 1, 1) := by decide +kernel
theorem dX11_readStep_68 : decode cX11_readStep 68 = .ok (.ldc_w 306, 3) := by decide +kernel
theorem dX11_readStep_71 : decode cX11_readStep 71 = .ok (.invokestatic 204, 3) := by decide +kernel
theorem dX11_readStep_74 : decode cX11_readStep 74 = .ok (.if_icmp .ne 7, 3) := by decide +kernel
theorem dX11_readStep_77 : decode cX11_readStep 77 = .ok (.iconst 0, 1) := by decide +kernel
theorem dX11_readStep_78 : decode cX11_readStep 78 = .ok (.goto 4, 3) := by decide +kernel
theorem dX11_readStep_81 : decode cX11_readStep 81 = .ok (.iconst 2, 1) := by decide +kernel
theorem dX11_readStep_82 : decode cX11_readStep 82 = .ok (.iload_n 2, 1) := by decide +kernel
theorem dX11_readStep_83 : decode cX11_readStep 83 = .ok (.aload_n 0, 1) := by decide +kernel
theorem dX11_readStep_84 : decode cX11_readStep 84 = .ok (.iconst 0, 1) := by decide +kernel
theorem dX11_readStep_85 : decode cX11_readStep 85 = .ok (.iload_n 1, 1) := by decide +kernel
theorem dX11_readStep_86 : decode cX11_readStep 86 = .ok (.ldc_w 306, 3) := by decide +kernel
theorem dX11_readStep_89 : decode cX11_readStep 89 = .ok (.invokestatic 204, 3) := by decide +kernel
theorem dX11_readStep_92 : decode cX11_readStep 92 = .ok (.if_icmp .ne 10, 3) := by decide +kernel
theorem dX11_readStep_95 : decode cX11_readStep 95 = .ok (.aload_n 0, 1) := by decide +kernel
theorem dX11_readStep_96 : decode cX11_readStep 96 = .ok (.getfield 175, 3) := by decide +kernel
theorem dX11_readStep_99 : decode cX11_readStep 99 = .ok (.goto 7, 3) := by decide +kernel
theorem dX11_readStep_102 : decode cX11_readStep 102 = .ok (.aload_n 0, 1) := by decide +kernel
theorem dX11_readStep_103 : decode cX11_readStep 103 = .ok (.getfield 178, 3) := by decide +kernel
theorem dX11_readStep_106 : decode cX11_readStep 106 = .ok (.iconst 1, 1) := by decide +kernel
theorem dX11_readStep_107 : decode cX11_readStep 107 = .ok (.isub, 1) := by decide +kernel
theorem dX11_readStep_108 : decode cX11_readStep 108 = .ok (.invokevirtual 212, 3) := by decide +kernel
theorem dX11_readStep_111 : decode cX11_readStep 111 = .ok (.invokevirtual 302, 3) := by decide +kernel
theorem dX11_readStep_114 : decode cX11_readStep 114 = .ok (.goto 231, 3) := by decide +kernel
theorem dX11_readStep_117 : decode cX11_readStep 117 = .ok (.iload_n 1, 1) := by decide +kernel
theorem dX11_readStep_118 : decode cX11_readStep 118 = .ok (.ldc_w 310, 3) := by decide +kernel
theorem dX11_readStep_121 : decode cX11_readStep 121 = .ok (.invokestatic 204, 3) := by decide +kernel
theorem dX11_readStep_124 : decode cX11_readStep 124 = .ok (.if_icmp .eq 23, 3) := by decide +kernel
theorem dX11_readStep_127 : decode cX11_readStep 127 = .ok (.iload_n 1, 1) := by decide +kernel
theorem dX11_readStep_128 : decode cX11_readStep 128 = .ok (.ldc_w 312, 3) := by decide +kernel
theorem dX11_readStep_131 : decode cX11_readStep 131 = .ok (.invokestatic 204, 3) := by decide +kernel
theorem dX11_readStep_134 : decode cX11_readStep 134 = .ok (.if_icmp .eq 13, 3) := by decide +kernel
theorem dX11_readStep_137 : decode cX11_readStep 137 = .ok (.iload_n 1, 1) := by decide +kernel
theorem dX11_readStep_138 : decode cX11_readStep 138 = .ok (.ldc_w 314, 3) := by decide +kernel
theorem dX11_readStep_141 : decode cX11_readStep 141 = .ok (.invokestatic 204, 3) := by decide +kernel
theorem dX11_readStep_144 : decode cX11_readStep 144 = .ok (.if_icmp .ne 55, 3) := by decide +kernel
theorem dX11_readStep_147 : decode cX11_readStep 147 = .ok (.aload_n 0, 1) := by decide +kernel
theorem dX11_readStep_148 : decode cX11_readStep 148 = .ok (.invokevirtual 236, 3) := by decide +kernel
theorem dX11_readStep_151 : decode cX11_readStep 151 = .ok (.aload_n 0, 1) := by decide +kernel
theorem dX11_readStep_152 : decode cX11_readStep 152 = .ok (.iload_n 1, 1) := by decide +kernel
theorem dX11_readStep_153 : decode cX11_readStep 153 = .ok (.ldc_w 310, 3) := by decide +kernel
theorem dX11_readStep_156 : decode cX11_readStep 156 = .ok (.invokestatic 204, 3) := by decide +kernel
theorem dX11_readStep_159 : decode cX11_readStep 159 = .ok (.if_icmp .ne 7, 3) := by decide +kernel
theorem dX11_readStep_162 : decode cX11_readStep 162 = .ok (.iconst 1, 1) := by decide +kernel
theorem dX11_readStep_163 : decode cX11_readStep 163 = .ok (.goto 18, 3) := by decide +kernel
theorem dX11_readStep_166 : decode cX11_readStep 166 = .ok (.iload_n 1, 1) := by decide +kernel
theorem dX11_readStep_167 : decode cX11_readStep 167 = .ok (.ldc_w 312, 3) := by decide +kernel
theorem dX11_readStep_170 : decode cX11_readStep 170 = .ok (.invokestatic 204, 3) := by decide +kernel
theorem dX11_readStep_173 : decode cX11_readStep 173 = .ok (.if_icmp .ne 7, 3) := by decide +kernel
theorem dX11_readStep_176 : decode cX11_readStep 176 = .ok (.iconst 3, 1) := by decide +kernel
theorem dX11_readStep_177 : decode cX11_readStep 177 = .ok (.goto 4, 3) := by decide +kernel
theorem dX11_readStep_180 : decode cX11_readStep 180 = .ok (.iconst 5, 1) := by decide +kernel
theorem dX11_readStep_181 : decode cX11_readStep 181 = .ok (.aload_n 0, 1) := by decide +kernel
theorem dX11_readStep_182 : decode cX11_readStep 182 = .ok (.iconst 0, 1) := by decide +kernel
theorem dX11_readStep_183 : decode cX11_readStep 183 = .ok (.aload_n 0, 1) := by decide +kernel
theorem dX11_readStep_184 : decode cX11_readStep 184 = .ok (.getfield 181, 3) := by decide +kernel
theorem dX11_readStep_187 : decode cX11_readStep 187 = .ok (.iconst 1, 1) := by decide +kernel
theorem dX11_readStep_188 : decode cX11_readStep 188 = .ok (.isub, 1) := by decide +kernel
theorem dX11_readStep_189 : decode cX11_readStep 189 = .ok (.invokevirtual 212, 3) := by decide +kernel
theorem dX11_readStep_192 : decode cX11_readStep 192 = .ok (.iconst 0, 1) := by decide +kernel
theorem dX11_readStep_193 : decode cX11_readStep 193 = .ok (.invokevirtual 302, 3) := by decide +kernel
theorem dX11_readStep_196 : decode cX11_readStep 196 = .ok (.goto 149, 3) := by decide +kernel
theorem dX11_readStep_199 : decode cX11_readStep 199 = .ok (.iload_n 1, 1) := by decide +kernel
theorem dX11_readStep_200 : decode cX11_readStep 200 = .ok (.ldc_w 316, 3) := by decide +kernel
theorem dX11_readStep_203 : decode cX11_readStep 203 = .ok (.invokestatic 204, 3) := by decide +kernel
theorem dX11_readStep_206 : decode cX11_readStep 206 = .ok (.if_icmp .ne 27, 3) := by decide +kernel
theorem dX11_readStep_209 : decode cX11_readStep 209 = .ok (.aload_n 0, 1) := by decide +kernel
theorem dX11_readStep_210 : decode cX11_readStep 210 = .ok (.invokevirtual 236, 3) := by decide +kernel
theorem dX11_readStep_213 : decode cX11_readStep 213 = .ok (.aload_n 0, 1) := by decide +kernel
theorem dX11_readStep_214 : decode cX11_readStep 214 = .ok (.iconst 4, 1) := by decide +kernel
theorem dX11_readStep_215 : decode cX11_readStep 215 = .ok (.aload_n 0, 1) := by decide +kernel
theorem dX11_readStep_216 : decode cX11_readStep 216 = .ok (.iconst 0, 1) := by decide +kernel
theorem dX11_readStep_217 : decode cX11_readStep 217 = .ok (.aload_n 0, 1) := by decide +kernel
theorem dX11_readStep_218 : decode cX11_readStep 218 = .ok (.getfield 175, 3) := by decide +kernel
theorem dX11_readStep_221 : decode cX11_readStep 221 = .ok (.iconst 1, 1) := by decide +kernel
theorem dX11_readStep_222 : decode cX11_readStep 222 = .ok (.isub, 1) := by decide +kernel
theorem dX11_readStep_223 : decode cX11_readStep 223 = .ok (.invokevirtual 212, 3) := by decide +kernel
theorem dX11_readStep_226 : decode cX11_readStep 226 = .ok (.iconst 0, 1) := by decide +kernel
theorem dX11_readStep_227 : decode cX11_readStep 227 = .ok (.invokevirtual 302, 3) := by decide +kernel
theorem dX11_readStep_230 : decode cX11_readStep 230 = .ok (.goto 115, 3) := by decide +kernel
theorem dX11_readStep_233 : decode cX11_readStep 233 = .ok (.iload_n 1, 1) := by decide +kernel
theorem dX11_readStep_234 : decode cX11_readStep 234 = .ok (.ldc_w 318, 3) := by decide +kernel
theorem dX11_readStep_237 : decode cX11_readStep 237 = .ok (.invokestatic 204, 3) := by decide +kernel
theorem dX11_readStep_240 : decode cX11_readStep 240 = .ok (.if_icmp .ne 96, 3) := by decide +kernel
theorem dX11_readStep_243 : decode cX11_readStep 243 = .ok (.aload_n 0, 1) := by decide +kernel
theorem dX11_readStep_244 : decode cX11_readStep 244 = .ok (.iconst 5, 1) := by decide +kernel
theorem dX11_readStep_245 : decode cX11_readStep 245 = .ok (.invokevirtual 261, 3) := by decide +kernel
theorem dX11_readStep_248 : decode cX11_readStep 248 = .ok (.aload_n 0, 1) := by decide +kernel
theorem dX11_readStep_249 : decode cX11_readStep 249 = .ok (.iconst 0, 1) := by decide +kernel
theorem dX11_readStep_250 : decode cX11_readStep 250 = .ok (.bipush 30, 2) := by decide +kernel
theorem dX11_readStep_252 : decode cX11_readStep 252 = .ok (.invokevirtual 212, 3) := by decide +kernel
theorem dX11_readStep_255 : decode cX11_readStep 255 = .ok (.istore_n 2, 1) := by decide +kernel
theorem dX11_readStep_256 : decode cX11_readStep 256 = .ok (.aload_n 0, 1) := by decide +kernel
theorem dX11_readStep_257 : decode cX11_readStep 257 = .ok (.bipush 91, 2) := by decide +kernel
theorem dX11_readStep_259 : decode cX11_readStep 259 = .ok (.invokevirtual 242, 3) := by decide +kernel
theorem dX11_readStep_262 : decode cX11_readStep 262 = .ok (.aload_n 0, 1) := by decide +kernel
theorem dX11_readStep_263 : decode cX11_readStep 263 = .ok (.getfield 299, 3) := by decide +kernel
theorem dX11_readStep_266 : decode cX11_readStep 266 = .ok (.istore_n 3, 1) := by decide +kernel
theorem dX11_readStep_267 : decode cX11_readStep 267 = .ok (.aload_n 0, 1) := by decide +kernel
theorem dX11_readStep_268 : decode cX11_readStep 268 = .ok (.bipush 7, 2) := by decide +kernel
theorem dX11_readStep_270 : decode cX11_readStep 270 = .ok (.iload_n 2, 1) := by decide +kernel
theorem dX11_readStep_271 : decode cX11_readStep 271 = .ok (.iconst 0, 1) := by decide +kernel
theorem dX11_readStep_272 : decode cX11_readStep 272 = .ok (.invokevirtual 302, 3) := by decide +kernel
theorem dX11_readStep_275 : decode cX11_readStep 275 = .ok (.aload_n 0, 1) := by decide +kernel
theorem dX11_readStep_276 : decode cX11_readStep 276 = .ok (.invokevirtual 152, 3) := by decide +kernel
theorem dX11_readStep_279 : decode cX11_readStep 279 = .ok (.ifCond .eq 19, 3) := by decide +kernel
theorem dX11_readStep_282 : decode cX11_readStep 282 = .ok (.aload_n 0, 1) := by decide +kernel
theorem dX11_readStep_283 : decode cX11_readStep 283 = .ok (.invokevirtual 135, 3) := by decide +kernel
theorem dX11_readStep_286 : decode cX11_readStep 286 = .ok (.bipush 93, 2) := by decide +kernel
theorem dX11_readStep_288 : decode cX11_readStep 288 = .ok (.if_icmp .eq 10, 3) := by decide +kernel
theorem dX11_readStep_291 : decode cX11_readStep 291 = .ok (.aload_n 0, 1) := by decide +kernel
theorem dX11_readStep_292 : decode cX11_readStep 292 = .ok (.invokevirtual 320, 3) := by decide +kernel
theorem dX11_readStep_295 : decode cX11_readStep 295 = .ok (.goto (-20), 3) := by decide +kernel
theorem dX11_readStep_298 : decode cX11_readStep 298 = .ok (.aload_n 0, 1) := by decide +kernel
theorem dX11_readStep_299 : decode cX11_readStep 299 = .ok (.bipush 93, 2) := by decide +kernel
theorem dX11_readStep_301 : decode cX11_readStep 301 = .ok (.invokevirtual 242, 3) := by decide +kernel
theorem dX11_readStep_304 : decode cX11_readStep 304 = .ok (.aload_n 0, 1) := by decide +kernel
theorem dX11_readStep_305 : decode cX11_readStep 305 = .ok (.dup, 1) := by decide +kernel
theorem dX11_readStep_306 : decode cX11_readStep 306 = .ok (.getfield 163, 3) := by decide +kernel
theorem dX11_readStep_309 : decode cX11_readStep 309 = .ok (.iconst 1, 1) := by decide +kernel
theorem dX11_readStep_310 : decode cX11_readStep 310 = .ok (.isub, 1) := by decide +kernel
theorem dX11_readStep_311 : decode cX11_readStep 311 = .ok (.putfield 163, 3) := by decide +kernel
theorem dX11_readStep_314 : decode cX11_readStep 314 = .ok (.aload_n 0, 1) := by decide +kernel
theorem dX11_readStep_315 : decode cX11_readStep 315 = .ok (.invokevirtual 152, 3) := by decide +kernel
theorem dX11_readStep_318 : decode cX11_readStep 318 = .ok (.ifCond .eq 15, 3) := by decide +kernel
theorem dX11_readStep_321 : decode cX11_readStep 321 = .ok (.aload_n 0, 1) := by decide +kernel
theorem dX11_readStep_322 : decode cX11_readStep 322 = .ok (.getfield 65, 3) := by decide +kernel
theorem dX11_readStep_325 : decode cX11_readStep 325 = .ok (.iload_n 3, 1) := by decide +kernel
theorem dX11_readStep_326 : decode cX11_readStep 326 = .ok (.iconst 2, 1) := by decide +kernel
theorem dX11_readStep_327 : decode cX11_readStep 327 = .ok (.iadd, 1) := by decide +kernel
theorem dX11_readStep_328 : decode cX11_readStep 328 = .ok (.aload_n 0, 1) := by decide +kernel
theorem dX11_readStep_329 : decode cX11_readStep 329 = .ok (.getfield 299, 3) := by decide +kernel
theorem dX11_readStep_332 : decode cX11_readStep 332 = .ok (.iastore, 1) := by decide +kernel
theorem dX11_readStep_333 : decode cX11_readStep 333 = .ok (.goto 12, 3) := by decide +kernel
theorem dX11_readStep_336 : decode cX11_readStep 336 = .ok (.aload_n 0, 1) := by decide +kernel
theorem dX11_readStep_337 : decode cX11_readStep 337 = .ok (.iconst 1, 1) := by decide +kernel
theorem dX11_readStep_338 : decode cX11_readStep 338 = .ok (.aload_n 0, 1) := by decide +kernel
theorem dX11_readStep_339 : decode cX11_readStep 339 = .ok (.getfield 129, 3) := by decide +kernel
theorem dX11_readStep_342 : decode cX11_readStep 342 = .ok (.invokevirtual 159, 3) := by decide +kernel
theorem dX11_readStep_345 : decode cX11_readStep 345 = .ok (.aload_n 0, 1) := by decide +kernel
theorem dX11_readStep_346 : decode cX11_readStep 346 = .ok (.bipush 59, 2) := by decide +kernel
theorem dX11_readStep_348 : decode cX11_readStep 348 = .ok (.invokevirtual 242, 3) := by decide +kernel
theorem dX11_readStep_351 : decode cX11_readStep 351 = .ok (.return_, 1) := by decide +kernel
theorem dX11_work_0 : decode cX11_work 0 = .ok (.aload_n 0, 1) := by decide +kernel
theorem dX11_work_1 : decode cX11_work 1 = .ok (.iconst 0, 1) := by decide +kernel
theorem dX11_work_2 : decode cX11_work 2 = .ok (.putfield 3, 3) := by decide +kernel
theorem dX11_work_5 : decode cX11_work 5 = .ok (.aload_n 0, 1) := by decide +kernel
theorem dX11_work_6 : decode cX11_work 6 = .ok (.iload_n 1, 1) := by decide +kernel
theorem dX11_work_7 : decode cX11_work 7 = .ok (.ifCond .lt 22, 3) := by decide +kernel
theorem dX11_work_10 : decode cX11_work 10 = .ok (.iload_n 1, 1) := by decide +kernel
theorem dX11_work_11 : decode cX11_work 11 = .ok (.aload_n 0, 1) := by decide +kernel
theorem dX11_work_12 : decode cX11_work 12 = .ok (.getfield 120, 3) := by decide +kernel
theorem dX11_work_15 : decode cX11_work 15 = .ok (.if_icmp .gt 14, 3) := by decide +kernel
theorem dX11_work_18 : decode cX11_work 18 = .ok (.iload_n 1, 1) := by decide +kernel
theorem dX11_work_19 : decode cX11_work 19 = .ok (.sipush 150, 3) := by decide +kernel
theorem dX11_work_22 : decode cX11_work 22 = .ok (.if_icmp .gt 7, 3) := by decide +kernel
theorem dX11_work_25 : decode cX11_work 25 = .ok (.iconst 1, 1) := by decide +kernel
theorem dX11_work_26 : decode cX11_work 26 = .ok (.goto 4, 3) := by decide +kernel
theorem dX11_work_29 : decode cX11_work 29 = .ok (.iconst 0, 1) := by decide +kernel
