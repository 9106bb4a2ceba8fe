theorem dX0_chooseHour_40 : decode cX0_chooseHour 40 = .ok (.if_icmp .eq 11, 3) := by decide +kernel
theorem dX0_chooseHour_43 : decode cX0_chooseHour 43 = .ok (.iload_n 3, 1) := by decide +kernel
theorem dX0_chooseHour_44 : decode cX0_chooseHour 44 = .ok (.aload_n 0, 1) := by decide +kernel
theorem dX0_chooseHour_45 : decode cX0_chooseHour 45 = .ok (.getfield 114, 3) := by decide +kernel
theorem dX0_chooseHour_48 : decode cX0_chooseHour 48 = .ok (.if_icmp .ge 13, 3) := by decide +kernel
theorem dX0_chooseHour_51 : decode cX0_chooseHour 51 = .ok (.aload_n 0, 1) := by decide +kernel
theorem dX0_chooseHour_52 : decode cX0_chooseHour 52 = .ok (.iload_n 2, 1) := by decide +kernel
theorem dX0_chooseHour_53 : decode cX0_chooseHour 53 = .ok (.putfield 30, 3) := by decide +kernel
theorem dX0_chooseHour_56 : decode cX0_chooseHour 56 = .ok (.aload_n 0, 1) := by decide +kernel
theorem dX0_chooseHour_57 : decode cX0_chooseHour 57 = .ok (.iload_n 3, 1) := by decide +kernel
theorem dX0_chooseHour_58 : decode cX0_chooseHour 58 = .ok (.putfield 114, 3) := by decide +kernel
theorem dX0_chooseHour_61 : decode cX0_chooseHour 61 = .ok (.iinc 2 1, 3) := by decide +kernel
theorem dX0_chooseHour_64 : decode cX0_chooseHour 64 = .ok (.goto (-52), 3) := by decide +kernel
theorem dX0_chooseHour_67 : decode cX0_chooseHour 67 = .ok (.return_, 1) := by decide +kernel
theorem dX0_mostAlike_0 : decode cX0_mostAlike 0 = .ok (.aload_n 0, 1) := by decide +kernel
theorem dX0_mostAlike_1 : decode cX0_mostAlike 1 = .ok (.getfield 15, 3) := by decide +kernel
theorem dX0_mostAlike_4 : decode cX0_mostAlike 4 = .ok (.iconst 0, 1) := by decide +kernel
theorem dX0_mostAlike_5 : decode cX0_mostAlike 5 = .ok (.invokestatic 62, 3) := by decide +kernel
theorem dX0_mostAlike_8 : decode cX0_mostAlike 8 = .ok (.iconst 0, 1) := by decide +kernel
theorem dX0_mostAlike_9 : decode cX0_mostAlike 9 = .ok (.istore_n 2, 1) := by decide +kernel
theorem dX0_mostAlike_10 : decode cX0_mostAlike 10 = .ok (.iconst 0, 1) := by decide +kernel
theorem dX0_mostAlike_11 : decode cX0_mostAlike 11 = .ok (.istore_n 3, 1) := by decide +kernel
theorem dX0_mostAlike_12 : decode cX0_mostAlike 12 = .ok (.iload_n 3, 1) := by decide +kernel
theorem dX0_mostAlike_13 : decode cX0_mostAlike 13 = .ok (.aload_n 0, 1) := by decide +kernel
theorem dX0_mostAlike_14 : decode cX0_mostAlike 14 = .ok (.getfield 99, 3) := by decide +kernel
theorem dX0_mostAlike_17 : decode cX0_mostAlike 17 = .ok (.if_icmp .ge 45, 3) := by decide +kernel
theorem dX0_mostAlike_20 : decode cX0_mostAlike 20 = .ok (.aload_n 0, 1) := by decide +kernel
theorem dX0_mostAlike_21 : decode cX0_mostAlike 21 = .ok (.getfield 11, 3) := by decide +kernel
theorem dX0_mostAlike_24 : decode cX0_mostAlike 24 = .ok (.iload_n 3, 1) := by decide +kernel
theorem dX0_mostAlike_25 : decode cX0_mostAlike 25 = .ok (.bipush 24, 2) := by decide +kernel
theorem dX0_mostAlike_27 : decode cX0_mostAlike 27 = .ok (.imul, 1) := by decide +kernel
theorem dX0_mostAlike_28 : decode cX0_mostAlike 28 = .ok (.iload_n 1, 1) := by decide +kernel
theorem dX0_mostAlike_29 : decode cX0_mostAlike 29 = .ok (.iadd, 1) := by decide +kernel
theorem dX0_mostAlike_30 : decode cX0_mostAlike 30 = .ok (.iaload, 1) := by decide +kernel
theorem dX0_mostAlike_31 : decode cX0_mostAlike 31 = .ok (.istore 4, 2) := by decide +kernel
theorem dX0_mostAlike_33 : decode cX0_mostAlike 33 = .ok (.aload_n 0, 1) := by decide +kernel
theorem dX0_mostAlike_34 : decode cX0_mostAlike 34 = .ok (.getfield 15, 3) := by decide +kernel
theorem dX0_mostAlike_37 : decode cX0_mostAlike 37 = .ok (.iload 4, 2) := by decide +kernel
theorem dX0_mostAlike_39 : decode cX0_mostAlike 39 = .ok (.dup2, 1) := by decide +kernel
theorem dX0_mostAlike_40 : decode cX0_mostAlike 40 = .ok (.iaload, 1) := by decide +kernel
theorem dX0_mostAlike_41 : decode cX0_mostAlike 41 = .ok (.iconst 1, 1) := by decide +kernel
theorem dX0_mostAlike_42 : decode cX0_mostAlike 42 = .ok (.iadd, 1) := by decide +kernel
theorem dX0_mostAlike_43 : decode cX0_mostAlike 43 = .ok (.iastore, 1) := by decide +kernel
theorem dX0_mostAlike_44 : decode cX0_mostAlike 44 = .ok (.iload_n 2, 1) := by decide +kernel
theorem dX0_mostAlike_45 : decode cX0_mostAlike 45 = .ok (.aload_n 0, 1) := by decide +kernel
theorem dX0_mostAlike_46 : decode cX0_mostAlike 46 = .ok (.getfield 15, 3) := by decide +kernel
theorem dX0_mostAlike_49 : decode cX0_mostAlike 49 = .ok (.iload 4, 2) := by decide +kernel
theorem dX0_mostAlike_51 : decode cX0_mostAlike 51 = .ok (.iaload, 1) := by decide +kernel
theorem dX0_mostAlike_52 : decode cX0_mostAlike 52 = .ok (.invokestatic 123, 3) := by decide +kernel
theorem dX0_mostAlike_55 : decode cX0_mostAlike 55 = .ok (.istore_n 2, 1) := by decide +kernel
theorem dX0_mostAlike_56 : decode cX0_mostAlike 56 = .ok (.iinc 3 1, 3) := by decide +kernel
theorem dX0_mostAlike_59 : decode cX0_mostAlike 59 = .ok (.goto (-47), 3) := by decide +kernel
theorem dX0_mostAlike_62 : decode cX0_mostAlike 62 = .ok (.iload_n 2, 1) := by decide +kernel
theorem dX0_mostAlike_63 : decode cX0_mostAlike 63 = .ok (.ireturn, 1) := by decide +kernel
theorem dX0_fewestMen_0 : decode cX0_fewestMen 0 = .ok (.iconst 0, 1) := by decide +kernel
theorem dX0_fewestMen_1 : decode cX0_fewestMen 1 = .ok (.istore 5, 2) := by decide +kernel
theorem dX0_fewestMen_3 : decode cX0_fewestMen 3 = .ok (.iconst 0, 1) := by decide +kernel
theorem dX0_fewestMen_4 : decode cX0_fewestMen 4 = .ok (.istore 6, 2) := by decide +kernel
theorem dX0_fewestMen_6 : decode cX0_fewestMen 6 = .ok (.iload 6, 2) := by decide +kernel
theorem dX0_fewestMen_8 : decode cX0_fewestMen 8 = .ok (.aload_n 1, 1) := by decide +kernel
theorem dX0_fewestMen_9 : decode cX0_fewestMen 9 = .ok (.getfield 37, 3) := by decide +kernel
theorem dX0_fewestMen_12 : decode cX0_fewestMen 12 = .ok (.getfield 84, 3) := by decide +kernel
theorem dX0_fewestMen_15 : decode cX0_fewestMen 15 = .ok (.if_icmp .ge 75, 3) := by decide +kernel
theorem dX0_fewestMen_18 : decode cX0_fewestMen 18 = .ok (.aload_n 0, 1) := by decide +kernel
theorem dX0_fewestMen_19 : decode cX0_fewestMen 19 = .ok (.getfield 27, 3) := by decide +kernel
theorem dX0_fewestMen_22 : decode cX0_fewestMen 22 = .ok (.iload 6, 2) := by decide +kernel
theorem dX0_fewestMen_24 : decode cX0_fewestMen 24 = .ok (.iconst 0, 1) := by decide +kernel
theorem dX0_fewestMen_25 : decode cX0_fewestMen 25 = .ok (.iastore, 1) := by decide +kernel
theorem dX0_fewestMen_26 : decode cX0_fewestMen 26 = .ok (.aload_n 2, 1) := by decide +kernel
theorem dX0_fewestMen_27 : decode cX0_fewestMen 27 = .ok (.iload 6, 2) := by decide +kernel
theorem dX0_fewestMen_29 : decode cX0_fewestMen 29 = .ok (.invokevirtual 87, 3) := by decide +kernel
theorem dX0_fewestMen_32 : decode cX0_fewestMen 32 = .ok (.ifCond .eq 52, 3) := by decide +kernel
theorem dX0_fewestMen_35 : decode cX0_fewestMen 35 = .ok (.aload_n 2, 1) := by decide +kernel
theorem dX0_fewestMen_36 : decode cX0_fewestMen 36 = .ok (.getfield 129, 3) := by decide +kernel
theorem dX0_fewestMen_39 : decode cX0_fewestMen 39 = .ok (.iload 6, 2) := by decide +kernel
theorem dX0_fewestMen_41 : decode cX0_fewestMen 41 = .ok (.iaload, 1) := by decide +kernel
theorem dX0_fewestMen_42 : decode cX0_fewestMen 42 = .ok (.iconst (-1), 1) := by decide +kernel
theorem dX0_fewestMen_43 : decode cX0_fewestMen 43 = .ok (.if_icmp .eq 41, 3) := by decide +kernel
theorem dX0_fewestMen_46 : decode cX0_fewestMen 46 = .ok (.aload_n 1, 1) := by decide +kernel
theorem dX0_fewestMen_47 : decode cX0_fewestMen 47 = .ok (.aload_n 2, 1) := by decide +kernel
theorem dX0_fewestMen_48 : decode cX0_fewestMen 48 = .ok (.iload 6, 2) := by decide +kernel
theorem dX0_fewestMen_50 : decode cX0_fewestMen 50 = .ok (.aload_n 2, 1) := by decide +kernel
theorem dX0_fewestMen_51 : decode cX0_fewestMen 51 = .ok (.getfield 129, 3) := by decide +kernel
theorem dX0_fewestMen_54 : decode cX0_fewestMen 54 = .ok (.iload 6, 2) := by decide +kernel
theorem dX0_fewestMen_56 : decode cX0_fewestMen 56 = .ok (.iaload, 1) := by decide +kernel
theorem dX0_fewestMen_57 : decode cX0_fewestMen 57 = .ok (.iload_n 3, 1) := by decide +kernel
theorem dX0_fewestMen_58 : decode cX0_fewestMen 58 = .ok (.invokevirtual 54, 3) := by decide +kernel
theorem dX0_fewestMen_61 : decode cX0_fewestMen 61 = .ok (.aload_n 0, 1) := by decide +kernel
theorem dX0_fewestMen_62 : decode cX0_fewestMen 62 = .ok (.getfield 27, 3) := by decide +kernel
theorem dX0_fewestMen_65 : decode cX0_fewestMen 65 = .ok (.iload 6, 2) := by decide +kernel
theorem dX0_fewestMen_67 : decode cX0_fewestMen 67 = .ok (.aload_n 1, 1) := by decide +kernel
theorem dX0_fewestMen_68 : decode cX0_fewestMen 68 = .ok (.invokevirtual 58, 3) := by decide +kernel
theorem dX0_fewestMen_71 : decode cX0_fewestMen 71 = .ok (.invokestatic 132, 3) := by decide +kernel
theorem dX0_fewestMen_74 : decode cX0_fewestMen 74 = .ok (.iastore, 1) := by decide +kernel
theorem dX0_fewestMen_75 : decode cX0_fewestMen 75 = .ok (.iload 5, 2) := by decide +kernel
theorem dX0_fewestMen_77 : decode cX0_fewestMen 77 = .ok (.iconst 1, 1) := by decide +kernel
theorem dX0_fewestMen_78 : decode cX0_fewestMen 78 = .ok (.iload 6, 2) := by decide +kernel
theorem dX0_fewestMen_80 : decode cX0_fewestMen 80 = .ok (.ishl, 1) := by decide +kernel
theorem dX0_fewestMen_81 : decode cX0_fewestMen 81 = .ok (.ior, 1) := by decide +kernel
theorem dX0_fewestMen_82 : decode cX0_fewestMen 82 = .ok (.istore 5, 2) := by decide +kernel
theorem dX0_fewestMen_84 : decode cX0_fewestMen 84 = .ok (.iinc 6 1, 3) := by decide +kernel
theorem dX0_fewestMen_87 : decode cX0_fewestMen 87 = .ok (.goto (-81), 3) := by decide +kernel
theorem dX0_fewestMen_90 : decode cX0_fewestMen 90 = .ok (.iconst (-1), 1) := by decide +kernel
theorem dX0_fewestMen_91 : decode cX0_fewestMen 91 = .ok (.istore 6, 2) := by decide +kernel
theorem dX0_fewestMen_93 : decode cX0_fewestMen 93 = .ok (.iconst 0, 1) := by decide +kernel
theorem dX0_fewestMen_94 : decode cX0_fewestMen 94 = .ok (.istore 7, 2) := by decide +kernel
theorem dX0_fewestMen_96 : decode cX0_fewestMen 96 = .ok (.iload 7, 2) := by decide +kernel
theorem dX0_fewestMen_98 : decode cX0_fewestMen 98 = .ok (.iload 5, 2) := by decide +kernel
theorem dX0_fewestMen_100 : decode cX0_fewestMen 100 = .ok (.if_icmp .gt 53, 3) := by decide +kernel
theorem dX0_fewestMen_103 : decode cX0_fewestMen 103 = .ok (.iload 7, 2) := by decide +kernel
theorem dX0_fewestMen_105 : decode cX0_fewestMen 105 = .ok (.iload 5, 2) := by decide +kernel
theorem dX0_fewestMen_107 : decode cX0_fewestMen 107 = .ok (.iconst (-1), 1) := by decide +kernel
theorem dX0_fewestMen_108 : decode cX0_fewestMen 108 = .ok (.ixor, 1) := by decide +kernel
theorem dX0_fewestMen_109 : decode cX0_fewestMen 109 = .ok (.iand, 1) := by decide +kernel
theorem dX0_fewestMen_110 : decode cX0_fewestMen 110 = .ok (.ifCond .ne 37, 3) := by decide +kernel
theorem dX0_fewestMen_113 : decode cX0_fewestMen 113 = .ok (.aload_n 0, 1) := by decide +kernel
theorem dX0_fewestMen_114 : decode cX0_fewestMen 114 = .ok (.iload 7, 2) := by decide +kernel
theorem dX0_fewestMen_116 : decode cX0_fewestMen 116 = .ok (.invokevirtual 135, 3) := by decide +kernel
theorem dX0_fewestMen_119 : decode cX0_fewestMen 119 = .ok (.iload 4, 2) := by decide +kernel
theorem dX0_fewestMen_121 : decode cX0_fewestMen 121 = .ok (.if_icmp .lt 26, 3) := by decide +kernel
theorem dX0_fewestMen_124 : decode cX0_fewestMen 124 = .ok (.iload 6, 2) := by decide +kernel
theorem dX0_fewestMen_126 : decode cX0_fewestMen 126 = .ok (.iconst (-1), 1) := by decide +kernel
theorem dX0_fewestMen_127 : decode cX0_fewestMen 127 = .ok (.if_icmp .eq 16, 3) := by decide +kernel
theorem dX0_fewestMen_130 : decode cX0_fewestMen 130 = .ok (.iload 7, 2) := by decide +kernel
theorem dX0_fewestMen_132 : decode cX0_fewestMen 132 = .ok (.invokestatic 71, 3) := by decide +kernel
theorem dX0_fewestMen_135 : decode cX0_fewestMen 135 = .ok (.iload 6, 2) := by decide +kernel
theorem dX0_fewestMen_137 : decode cX0_fewestMen 137 = .ok (.invokestatic 71, 3) := by decide +kernel
theorem dX0_fewestMen_140 : decode cX0_fewestMen 140 = .ok (.if_icmp .ge 7, 3) := by decide +kernel
theorem dX0_fewestMen_143 : decode cX0_fewestMen 143 = .ok (.iload 7, 2) := by decide +kernel
theorem dX0_fewestMen_145 : decode cX0_fewestMen 145 = .ok (.istore 6, 2) := by decide +kernel
theorem dX0_fewestMen_147 : decode cX0_fewestMen 147 = .ok (.iinc 7 1, 3) := by decide +kernel
theorem dX0_fewestMen_150 : decode cX0_fewestMen 150 = .ok (.goto (-54), 3) := by decide +kernel
theorem dX0_fewestMen_153 : decode cX0_fewestMen 153 = .ok (.iload 6, 2) := by decide +kernel
theorem dX0_fewestMen_155 : decode cX0_fewestMen 155 = .ok (.ireturn, 1) := by decide +kernel
theorem dX0_takenBy_0 : decode cX0_takenBy 0 = .ok (.iconst 0, 1) := by decide +kernel
theorem dX0_takenBy_1 : decode cX0_takenBy 1 = .ok (.istore_n 2, 1) := by decide +kernel
theorem dX0_takenBy_2 : decode cX0_takenBy 2 = .ok (.iconst 0, 1) := by decide +kernel
theorem dX0_takenBy_3 : decode cX0_takenBy 3 = .ok (.istore_n 3, 1) := by decide +kernel
theorem dX0_takenBy_4 : decode cX0_takenBy 4 = .ok (.iload_n 3, 1) := by decide +kernel
theorem dX0_takenBy_5 : decode cX0_takenBy 5 = .ok (.bipush 6, 2) := by decide +kernel
theorem dX0_takenBy_7 : decode cX0_takenBy 7 = .ok (.if_icmp .ge 31, 3) := by decide +kernel
theorem dX0_takenBy_10 : decode cX0_takenBy 10 = .ok (.iload_n 2, 1) := by decide +kernel
theorem dX0_takenBy_11 : decode cX0_takenBy 11 = .ok (.iload_n 1, 1) := by decide +kernel
theorem dX0_takenBy_12 : decode cX0_takenBy 12 = .ok (.iload_n 3, 1) := by decide +kernel
theorem dX0_takenBy_13 : decode cX0_takenBy 13 = .ok (.ishr, 1) := by decide +kernel
theorem dX0_takenBy_14 : decode cX0_takenBy 14 = .ok (.iconst 1, 1) := by decide +kernel
theorem dX0_takenBy_15 : decode cX0_takenBy 15 = .ok (.iand, 1) := by decide +kernel
theorem dX0_takenBy_16 : decode cX0_takenBy 16 = .ok (.iconst 1, 1) := by decide +kernel
theorem dX0_takenBy_17 : decode cX0_takenBy 17 = .ok (.if_icmp .ne 12, 3) := by decide +kernel
theorem dX0_takenBy_20 : decode cX0_takenBy 20 = .ok (.aload_n 0, 1) := by decide +kernel
theorem dX0_takenBy_21 : decode cX0_takenBy 21 = .ok (.getfield 27, 3) := by decide +kernel
theorem dX0_takenBy_24 : decode cX0_takenBy 24 = .ok (.iload_n 3, 1) := by decide +kernel
theorem dX0_takenBy_25 : decode cX0_takenBy 25 = .ok (.iaload, 1) := by decide +kernel
theorem dX0_takenBy_26 : decode cX0_takenBy 26 = .ok (.goto 4, 3) := by decide +kernel
theorem dX0_takenBy_29 : decode cX0_takenBy 29 = .ok (.iconst 0, 1) := by decide +kernel
theorem dX0_takenBy_30 : decode cX0_takenBy 30 = .ok (.iadd, 1) := by decide +kernel
theorem dX0_takenBy_31 : decode cX0_takenBy 31 = .ok (.istore_n 2, 1) := by decide +kernel
theorem dX0_takenBy_32 : decode cX0_takenBy 32 = .ok (.iinc 3 1, 3) := by decide +kernel
theorem dX0_takenBy_35 : decode cX0_takenBy 35 = .ok (.goto (-31), 3) := by decide +kernel
theorem dX0_takenBy_38 : decode cX0_takenBy 38 = .ok (.iload_n 2, 1) := by decide +kernel
theorem dX0_takenBy_39 : decode cX0_takenBy 39 = .ok (.ireturn, 1) := by decide +kernel
theorem dX1_init_0 : decode cX1_init 0 = .ok (.aload_n 0, 1) := by decide +kernel
theorem dX1_init_1 : decode cX1_init 1 = .ok (.invokespecial 3, 3) := by decide +kernel
theorem dX1_init_4 : decode cX1_init 4 = .ok (.aload_n 0, 1) := by decide +kernel
theorem dX1_init_5 : decode cX1_init 5 = .ok (.bipush 8, 2) := by decide +kernel
theorem dX1_init_7 : decode cX1_init 7 = .ok (.newarray .int, 2) := by decide +kernel
theorem dX1_init_9 : decode cX1_init 9 = .ok (.putfield 11, 3) := by decide +kernel
theorem dX1_init_12 : decode cX1_init 12 = .ok (.aload_n 0, 1) := by decide +kernel
theorem dX1_init_13 : decode cX1_init 13 = .ok (.bipush 8, 2) := by decide +kernel
theorem dX1_init_15 : decode cX1_init 15 = .ok (.newarray .int, 2) := by decide +kernel
theorem dX1_init_17 : decode cX1_init 17 = .ok (.putfield 15, 3) := by decide +kernel
theorem dX1_init_20 : decode cX1_init 20 = .ok (.return_, 1) := by decide +kernel
theorem dX1_readText_0 : decode cX1_readText 0 = .ok (.aload_n 0, 1) := by decide +kernel
theorem dX1_readText_1 : decode cX1_readText 1 = .ok (.iconst 0, 1) := by decide +kernel
theorem dX1_readText_2 : decode cX1_readText 2 = .ok (.putfield 18, 3) := by decide +kernel
theorem dX1_readText_5 : decode cX1_readText 5 = .ok (.iconst 0, 1) := by decide +kernel
theorem dX1_readText_6 : decode cX1_readText 6 = .ok (.istore_n 2, 1) := by decide +kernel
theorem dX1_readText_7 : decode cX1_readText 7 = .ok (.iload_n 2, 1) := by decide +kernel
theorem dX1_readText_8 : decode cX1_readText 8 = .ok (.bipush 8, 2) := by decide +kernel
theorem dX1_readText_10 : decode cX1_readText 10 = .ok (.if_icmp .gt 28, 3) := by decide +kernel
theorem dX1_readText_13 : decode cX1_readText 13 = .ok (.aload_n 1, 1) := by decide +kernel
theorem dX1_readText_14 : decode cX1_readText 14 = .ok (.invokevirtual 22, 3) := by decide +kernel
theorem dX1_readText_17 : decode cX1_readText 17 = .ok (.ifCond .ne 21, 3) := by decide +kernel
theorem dX1_readText_20 : decode cX1_readText 20 = .ok (.aload_n 1, 1) := by decide +kernel
theorem dX1_readText_21 : decode cX1_readText 21 = .ok (.invokevirtual 28, 3) := by decide +kernel
theorem dX1_readText_24 : decode cX1_readText 24 = .ok (.ifCond .ne 14, 3) := by decide +kernel
theorem dX1_readText_27 : decode cX1_readText 27 = .ok (.aload_n 0, 1) := by decide +kernel
theorem dX1_readText_28 : decode cX1_readText 28 = .ok (.aload_n 1, 1) := by decide +kernel
theorem dX1_readText_29 : decode cX1_readText 29 = .ok (.invokevirtual 31, 3) := by decide +kernel
theorem dX1_readText_32 : decode cX1_readText 32 = .ok (.iinc 2 1, 3) := by decide +kernel
theorem dX1_readText_35 : decode cX1_readText 35 = .ok (.goto (-28), 3) := by decide +kernel
theorem dX1_readText_38 : decode cX1_readText 38 = .ok (.aload_n 1, 1) := by decide +kernel
theorem dX1_readText_39 : decode cX1_readText 39 = .ok (.invokevirtual 28, 3) := by decide +kernel
theorem dX1_readText_42 : decode cX1_readText 42 = .ok (.ifCond .ne 7, 3) := by decide +kernel
theorem dX1_readText_45 : decode cX1_readText 45 = .ok (.iconst 1, 1) := by decide +kernel
theorem dX1_readText_46 : decode cX1_readText 46 = .ok (.goto 4, 3) := by decide +kernel
theorem dX1_readText_49 : decode cX1_readText 49 = .ok (.iconst 0, 1) := by decide +kernel
theorem dX1_readText_50 : decode cX1_readText 50 = .ok (.ireturn, 1) := by decide +kernel
theorem dX1_readEntry_0 : decode cX1_readEntry 0 = .ok (.aload_n 1, 1) := by decide +kernel
theorem dX1_readEntry_1 : decode cX1_readEntry 1 = .ok (.invokevirtual 35, 3) := by decide +kernel
theorem dX1_readEntry_4 : decode cX1_readEntry 4 = .ok (.ifCond .eq 22, 3) := by decide +kernel
theorem dX1_readEntry_7 : decode cX1_readEntry 7 = .ok (.aload_n 0, 1) := by decide +kernel
theorem dX1_readEntry_8 : decode cX1_readEntry 8 = .ok (.aload_n 1, 1) := by decide +kernel
theorem dX1_readEntry_9 : decode cX1_readEntry 9 = .ok (.getfield 38, 3) := by decide +kernel
theorem dX1_readEntry_12 : decode cX1_readEntry 12 = .ok (.invokevirtual 41, 3) := by decide +kernel
theorem dX1_readEntry_15 : decode cX1_readEntry 15 = .ok (.ifCond .eq 11, 3) := by decide +kernel
theorem dX1_readEntry_18 : decode cX1_readEntry 18 = .ok (.aload_n 1, 1) := by decide +kernel
theorem dX1_readEntry_19 : decode cX1_readEntry 19 = .ok (.iconst 2, 1) := by decide +kernel
theorem dX1_readEntry_20 : decode cX1_readEntry 20 = .ok (.invokevirtual 45, 3) := by decide +kernel
theorem dX1_readEntry_23 : decode cX1_readEntry 23 = .ok (.goto 33, 3) := by decide +kernel
theorem dX1_readEntry_26 : decode cX1_readEntry 26 = .ok (.aload_n 0, 1) := by decide +kernel
theorem dX1_readEntry_27 : decode cX1_readEntry 27 = .ok (.getfield 18, 3) := by decide +kernel
theorem dX1_readEntry_30 : decode cX1_readEntry 30 = .ok (.bipush 8, 2) := by decide +kernel
theorem dX1_readEntry_32 : decode cX1_readEntry 32 = .ok (.if_icmp .lt 24, 3) := by decide +kernel
theorem dX1_readEntry_35 : decode cX1_readEntry 35 = .ok (.aload_n 1, 1) := by decide +kernel
theorem dX1_readEntry_36 : decode cX1_readEntry 36 = .ok (.invokevirtual 35, 3) := by decide +kernel
theorem dX1_readEntry_39 : decode cX1_readEntry 39 = .ok (.ifCond .eq 17, 3) := by decide +kernel
theorem dX1_readEntry_42 : decode cX1_readEntry 42 = .ok (.aload_n 1, 1) := by decide +kernel
theorem dX1_readEntry_43 : decode cX1_readEntry 43 = .ok (.getfield 38, 3) := by decide +kernel
theorem dX1_readEntry_46 : decode cX1_readEntry 46 = .ok (.bipush 24, 2) := by decide +kernel
theorem dX1_readEntry_48 : decode cX1_readEntry 48 = .ok (.if_icmp .ge 8, 3) := by decide +kernel
theorem dX1_readEntry_51 : decode cX1_readEntry 51 = .ok (.aload_n 1, 1) := by decide +kernel
theorem dX1_readEntry_52 : decode cX1_readEntry 52 = .ok (.iconst 3, 1) := by decide +kernel
theorem dX1_readEntry_53 : decode cX1_readEntry 53 = .ok (.invokevirtual 45, 3) := by decide +kernel
theorem dX1_readEntry_56 : decode cX1_readEntry 56 = .ok (.aload_n 1, 1) := by decide +kernel
theorem dX1_readEntry_57 : decode cX1_readEntry 57 = .ok (.iconst 0, 1) := by decide +kernel
theorem dX1_readEntry_58 : decode cX1_readEntry 58 = .ok (.bipush 23, 2) := by decide +kernel
theorem dX1_readEntry_60 : decode cX1_readEntry 60 = .ok (.invokevirtual 49, 3) := by decide +kernel
theorem dX1_readEntry_63 : decode cX1_readEntry 63 = .ok (.istore_n 2, 1) := by decide +kernel
theorem dX1_readEntry_64 : decode cX1_readEntry 64 = .ok (.aload_n 1, 1) := by decide +kernel
theorem dX1_readEntry_65 : decode cX1_readEntry 65 = .ok (.iconst 0, 1) := by decide +kernel
theorem dX1_readEntry_66 : decode cX1_readEntry 66 = .ok (.bipush 99, 2) := by decide +kernel
theorem dX1_readEntry_68 : decode cX1_readEntry 68 = .ok (.invokevirtual 49, 3) := by decide +kernel
theorem dX1_readEntry_71 : decode cX1_readEntry 71 = .ok (.istore_n 3, 1) := by decide +kernel
theorem dX1_readEntry_72 : decode cX1_readEntry 72 = .ok (.aload_n 1, 1) := by decide +kernel
theorem dX1_readEntry_73 : decode cX1_readEntry 73 = .ok (.bipush 59, 2) := by decide +kernel
theorem dX1_readEntry_75 : decode cX1_readEntry 75 = .ok (.invokevirtual 53, 3) := by decide +kernel
theorem dX1_readEntry_78 : decode cX1_readEntry 78 = .ok (.aload_n 1, 1) := by decide +kernel
theorem dX1_readEntry_79 : decode cX1_readEntry 79 = .ok (.invokevirtual 28, 3) := by decide +kernel
theorem dX1_readEntry_82 : decode cX1_readEntry 82 = .ok (.ifCond .ne 42, 3) := by decide +kernel
theorem dX1_readEntry_85 : decode cX1_readEntry 85 = .ok (.aload_n 0, 1) := by decide +kernel
theorem dX1_readEntry_86 : decode cX1_readEntry 86 = .ok (.getfield 18, 3) := by decide +kernel
theorem dX1_readEntry_89 : decode cX1_readEntry 89 = .ok (.bipush 8, 2) := by decide +kernel
theorem dX1_readEntry_91 : decode cX1_readEntry 91 = .ok (.if_icmp .ge 33, 3) := by decide +kernel
theorem dX1_readEntry_94 : decode cX1_readEntry 94 = .ok (.aload_n 0, 1) := by decide +kernel
theorem dX1_readEntry_95 : decode cX1_readEntry 95 = .ok (.getfield 11, 3) := by decide +kernel
theorem dX1_readEntry_98 : decode cX1_readEntry 98 = .ok (.aload_n 0, 1) := by decide +kernel
theorem dX1_readEntry_99 : decode cX1_readEntry 99 = .ok (.getfield 18, 3) := by decide +kernel
theorem dX1_readEntry_102 : decode cX1_readEntry 102 = .ok (.iload_n 2, 1) := by decide +kernel
theorem dX1_readEntry_103 : decode cX1_readEntry 103 = .ok (.iastore, 1) := by decide +kernel
theorem dX1_readEntry_104 : decode cX1_readEntry 104 = .ok (.aload_n 0, 1) := by decide +kernel
theorem dX1_readEntry_105 : decode cX1_readEntry 105 = .ok (.getfield 15, 3) := by decide +kernel
theorem dX1_readEntry_108 : decode cX1_readEntry 108 = .ok (.aload_n 0, 1) := by decide +kernel
theorem dX1_readEntry_109 : decode cX1_readEntry 109 = .ok (.getfield 18, 3) := by decide +kernel
theorem dX1_readEntry_112 : decode cX1_readEntry 112 = .ok (.iload_n 3, 1) := by decide +kernel
theorem dX1_readEntry_113 : decode cX1_readEntry 113 = .ok (.iastore, 1) := by decide +kernel
theorem dX1_readEntry_114 : decode cX1_readEntry 114 = .ok (.aload_n 0, 1) := by decide +kernel
theorem dX1_readEntry_115 : decode cX1_readEntry 115 = .ok (.dup, 1) := by decide +kernel
theorem dX1_readEntry_116 : decode cX1_readEntry 116 = .ok (.getfield 18, 3) := by decide +kernel
theorem dX1_readEntry_119 : decode cX1_readEntry 119 = .ok (.iconst 1, 1) := by decide +kernel
theorem dX1_readEntry_120 : decode cX1_readEntry 120 = .ok (.iadd, 1) := by decide +kernel
theorem dX1_readEntry_121 : decode cX1_readEntry 121 = .ok (.putfield 18, 3) := by decide +kernel
theorem dX1_readEntry_124 : decode cX1_readEntry 124 = .ok (.return_, 1) := by decide +kernel
theorem dX1_isTold_0 : decode cX1_isTold 0 = .ok (.iconst 0, 1) := by decide +kernel
theorem dX1_isTold_1 : decode cX1_isTold 1 = .ok (.istore_n 2, 1) := by decide +kernel
theorem dX1_isTold_2 : decode cX1_isTold 2 = .ok (.iload_n 2, 1) := by decide +kernel
theorem dX1_isTold_3 : decode cX1_isTold 3 = .ok (.aload_n 0, 1) := by decide +kernel
theorem dX1_isTold_4 : decode cX1_isTold 4 = .ok (.getfield 18, 3) := by decide +kernel
theorem dX1_isTold_7 : decode cX1_isTold 7 = .ok (.if_icmp .ge 21, 3) := by decide +kernel
theorem dX1_isTold_10 : decode cX1_isTold 10 = .ok (.aload_n 0, 1) := by decide +kernel
theorem dX1_isTold_11 : decode cX1_isTold 11 = .ok (.getfield 11, 3) := by decide +kernel
theorem dX1_isTold_14 : decode cX1_isTold 14 = .ok (.iload_n 2, 1) := by decide +kernel
theorem dX1_isTold_15 : decode cX1_isTold 15 = .ok (.iaload, 1) := by decide +kernel
theorem dX1_isTold_16 : decode cX1_isTold 16 = .ok (.iload_n 1, 1) := by decide +kernel
theorem dX1_isTold_17 : decode cX1_isTold 17 = .ok (.if_icmp .ne 5, 3) := by decide +kernel
theorem dX1_isTold_20 : decode cX1_isTold 20 = .ok (.iconst 1, 1) := by decide +kernel
theorem dX1_isTold_21 : decode cX1_isTold 21 = .ok (.ireturn, 1) := by decide +kernel
theorem dX1_isTold_22 : decode cX1_isTold 22 = .ok (.iinc 2 1, 3) := by decide +kernel
theorem dX1_isTold_25 : decode cX1_isTold 25 = .ok (.goto (-23), 3) := by decide +kernel
theorem dX1_isTold_28 : decode cX1_isTold 28 = .ok (.iconst 0, 1) := by decide +kernel
theorem dX1_isTold_29 : decode cX1_isTold 29 = .ok (.ireturn, 1) := by decide +kernel
theorem dX1_hoursNeeded_0 : decode cX1_hoursNeeded 0 = .ok (.iconst 0, 1) := by decide +kernel
theorem dX1_hoursNeeded_1 : decode cX1_hoursNeeded 1 = .ok (.istore_n 1, 1) := by decide +kernel
theorem dX1_hoursNeeded_2 : decode cX1_hoursNeeded 2 = .ok (.iconst 0, 1) := by decide +kernel
theorem dX1_hoursNeeded_3 : decode cX1_hoursNeeded 3 = .ok (.istore_n 2, 1) := by decide +kernel
theorem dX1_hoursNeeded_4 : decode cX1_hoursNeeded 4 = .ok (.iload_n 2, 1) := by decide +kernel
theorem dX1_hoursNeeded_5 : decode cX1_hoursNeeded 5 = .ok (.aload_n 0, 1) := by decide +kernel
theorem dX1_hoursNeeded_6 : decode cX1_hoursNeeded 6 = .ok (.getfield 18, 3) := by decide +kernel
theorem dX1_hoursNeeded_9 : decode cX1_hoursNeeded 9 = .ok (.if_icmp .ge 22, 3) := by decide +kernel
theorem dX1_hoursNeeded_12 : decode cX1_hoursNeeded 12 = .ok (.iload_n 1, 1) := by decide +kernel
theorem dX1_hoursNeeded_13 : decode cX1_hoursNeeded 13 = .ok (.aload_n 0, 1) := by decide +kernel
theorem dX1_hoursNeeded_14 : decode cX1_hoursNeeded 14 = .ok (.getfield 11, 3) := by decide +kernel
theorem dX1_hoursNeeded_17 : decode cX1_hoursNeeded 17 = .ok (.iload_n 2, 1) := by decide +kernel
theorem dX1_hoursNeeded_18 : decode cX1_hoursNeeded 18 = .ok (.iaload, 1) := by decide +kernel
theorem dX1_hoursNeeded_19 : decode cX1_hoursNeeded 19 = .ok (.iconst 1, 1) := by decide +kernel
theorem dX1_hoursNeeded_20 : decode cX1_hoursNeeded 20 = .ok (.iadd, 1) := by decide +kernel
theorem dX1_hoursNeeded_21 : decode cX1_hoursNeeded 21 = .ok (.invokestatic 57, 3) := by decide +kernel
theorem dX1_hoursNeeded_24 : decode cX1_hoursNeeded 24 = .ok (.istore_n 1, 1) := by decide +kernel
theorem dX1_hoursNeeded_25 : decode cX1_hoursNeeded 25 = .ok (.iinc 2 1, 3) := by decide +kernel
theorem dX1_hoursNeeded_28 : decode cX1_hoursNeeded 28 = .ok (.goto (-24), 3) := by decide +kernel
theorem dX1_hoursNeeded_31 : decode cX1_hoursNeeded 31 = .ok (.iload_n 1, 1) := by decide +kernel
theorem dX1_hoursNeeded_32 : decode cX1_hoursNeeded 32 = .ok (.ireturn, 1) := by decide +kernel
theorem dX1_isRight_0 : decode cX1_isRight 0 = .ok (.iconst 0, 1) := by decide +kernel
theorem dX1_isRight_1 : decode cX1_isRight 1 = .ok (.istore_n 3, 1) := by decide +kernel
theorem dX1_isRight_2 : decode cX1_isRight 2 = .ok (.iload_n 3, 1) := by decide +kernel
theorem dX1_isRight_3 : decode cX1_isRight 3 = .ok (.aload_n 0, 1) := by decide +kernel
theorem dX1_isRight_4 : decode cX1_isRight 4 = .ok (.getfield 18, 3) := by decide +kernel
theorem dX1_isRight_7 : decode cX1_isRight 7 = .ok (.if_icmp .ge 30, 3) := by decide +kernel
theorem dX1_isRight_10 : decode cX1_isRight 10 = .ok (.aload_n 1, 1) := by decide +kernel
theorem dX1_isRight_11 : decode cX1_isRight 11 = .ok (.iload_n 2, 1) := by decide +kernel
theorem dX1_isRight_12 : decode cX1_isRight 12 = .ok (.aload_n 0, 1) := by decide +kernel
theorem dX1_isRight_13 : decode cX1_isRight 13 = .ok (.getfield 11, 3) := by decide +kernel
theorem dX1_isRight_16 : decode cX1_isRight 16 = .ok (.iload_n 3, 1) := by decide +kernel
theorem dX1_isRight_17 : decode cX1_isRight 17 = .ok (.iaload, 1) := by decide +kernel
theorem dX1_isRight_18 : decode cX1_isRight 18 = .ok (.iadd, 1) := by decide +kernel
theorem dX1_isRight_19 : decode cX1_isRight 19 = .ok (.iaload, 1) := by decide +kernel
theorem dX1_isRight_20 : decode cX1_isRight 20 = .ok (.aload_n 0, 1) := by decide +kernel
theorem dX1_isRight_21 : decode cX1_isRight 21 = .ok (.getfield 15, 3) := by decide +kernel
theorem dX1_isRight_24 : decode cX1_isRight 24 = .ok (.iload_n 3, 1) := by decide +kernel
theorem dX1_isRight_25 : decode cX1_isRight 25 = .ok (.iaload, 1) := by decide +kernel
theorem dX1_isRight_26 : decode cX1_isRight 26 = .ok (.if_icmp .eq 5, 3) := by decide +kernel
theorem dX1_isRight_29 : decode cX1_isRight 29 = .ok (.iconst 0, 1) := by decide +kernel
theorem dX1_isRight_30 : decode cX1_isRight 30 = .ok (.ireturn, 1) := by decide +kernel
theorem dX1_isRight_31 : decode cX1_isRight 31 = .ok (.iinc 3 1, 3) := by decide +kernel
theorem dX1_isRight_34 : decode cX1_isRight 34 = .ok (.goto (-32), 3) := by decide +kernel
theorem dX1_isRight_37 : decode cX1_isRight 37 = .ok (.iconst 1, 1) := by decide +kernel
theorem dX1_isRight_38 : decode cX1_isRight 38 = .ok (.ireturn, 1) := by decide +kernel
theorem dX2_init_0 : decode cX2_init 0 = .ok (.aload_n 0, 1) := by decide +kernel
theorem dX2_init_1 : decode cX2_init 1 = .ok (.invokespecial 3, 3) := by decide +kernel
theorem dX2_init_4 : decode cX2_init 4 = .ok (.aload_n 0, 1) := by decide +kernel
theorem dX2_init_5 : decode cX2_init 5 = .ok (.bipush 8, 2) := by decide +kernel
theorem dX2_init_7 : decode cX2_init 7 = .ok (.newarray .int, 2) := by decide +kernel
theorem dX2_init_9 : decode cX2_init 9 = .ok (.putfield 9, 3) := by decide +kernel
theorem dX2_init_12 : decode cX2_init 12 = .ok (.aload_n 0, 1) := by decide +kernel
theorem dX2_init_13 : decode cX2_init 13 = .ok (.bipush 8, 2) := by decide +kernel
theorem dX2_init_15 : decode cX2_init 15 = .ok (.newarray .int, 2) := by decide +kernel
theorem dX2_init_17 : decode cX2_init 17 = .ok (.putfield 15, 3) := by decide +kernel
theorem dX2_init_20 : decode cX2_init 20 = .ok (.aload_n 0, 1) := by decide +kernel
theorem dX2_init_21 : decode cX2_init 21 = .ok (.bipush 6, 2) := by decide +kernel
theorem dX2_init_23 : decode cX2_init 23 = .ok (.newarray .int, 2) := by decide +kernel
theorem dX2_init_25 : decode cX2_init 25 = .ok (.putfield 18, 3) := by decide +kernel
theorem dX2_init_28 : decode cX2_init 28 = .ok (.aload_n 0, 1) := by decide +kernel
theorem dX2_init_29 : decode cX2_init 29 = .ok (.bipush 6, 2) := by decide +kernel
theorem dX2_init_31 : decode cX2_init 31 = .ok (.newarray .int, 2) := by decide +kernel
theorem dX2_init_33 : decode cX2_init 33 = .ok (.putfield 21, 3) := by decide +kernel
theorem dX2_init_36 : decode cX2_init 36 = .ok (.aload_n 0, 1) := by decide +kernel
theorem dX2_init_37 : decode cX2_init 37 = .ok (.bipush 6, 2) := by decide +kernel
theorem dX2_init_39 : decode cX2_init 39 = .ok (.newarray .int, 2) := by decide +kernel
theorem dX2_init_41 : decode cX2_init 41 = .ok (.putfield 24, 3) := by decide +kernel
theorem dX2_init_44 : decode cX2_init 44 = .ok (.aload_n 0, 1) := by decide +kernel
theorem dX2_init_45 : decode cX2_init 45 = .ok (.bipush 6, 2) := by decide +kernel
theorem dX2_init_47 : decode cX2_init 47 = .ok (.newarray .int, 2) := by decide +kernel
theorem dX2_init_49 : decode cX2_init 49 = .ok (.putfield 27, 3) := by decide +kernel
theorem dX2_init_52 : decode cX2_init 52 = .ok (.return_, 1) := by decide +kernel
theorem dX2_readText_0 : decode cX2_readText 0 = .ok (.aload_n 0, 1) := by decide +kernel
theorem dX2_readText_1 : decode cX2_readText 1 = .ok (.iconst 0, 1) := by decide +kernel
theorem dX2_readText_2 : decode cX2_readText 2 = .ok (.putfield 30, 3) := by decide +kernel
theorem dX2_readText_5 : decode cX2_readText 5 = .ok (.aload_n 0, 1) := by decide +kernel
theorem dX2_readText_6 : decode cX2_readText 6 = .ok (.iconst 0, 1) := by decide +kernel
theorem dX2_readText_7 : decode cX2_readText 7 = .ok (.putfield 34, 3) := by decide +kernel
theorem dX2_readText_10 : decode cX2_readText 10 = .ok (.aload_n 0, 1) := by decide +kernel
theorem dX2_readText_11 : decode cX2_readText 11 = .ok (.iconst 0, 1) := by decide +kernel
theorem dX2_readText_12 : decode cX2_readText 12 = .ok (.putfield 37, 3) := by decide +kernel
theorem dX2_readText_15 : decode cX2_readText 15 = .ok (.iconst 0, 1) := by decide +kernel
theorem dX2_readText_16 : decode cX2_readText 16 = .ok (.istore_n 2, 1) := by decide +kernel
theorem dX2_readText_17 : decode cX2_readText 17 = .ok (.iload_n 2, 1) := by decide +kernel
theorem dX2_readText_18 : decode cX2_readText 18 = .ok (.bipush 60, 2) := by decide +kernel
theorem dX2_readText_20 : decode cX2_readText 20 = .ok (.if_icmp .gt 45, 3) := by decide +kernel
theorem dX2_readText_23 : decode cX2_readText 23 = .ok (.aload_n 1, 1) := by decide +kernel
theorem dX2_readText_24 : decode cX2_readText 24 = .ok (.invokevirtual 40, 3) := by decide +kernel
theorem dX2_readText_27 : decode cX2_readText 27 = .ok (.ifCond .ne 38, 3) := by decide +kernel
theorem dX2_readText_30 : decode cX2_readText 30 = .ok (.aload_n 1, 1) := by decide +kernel
theorem dX2_readText_31 : decode cX2_readText 31 = .ok (.invokevirtual 46, 3) := by decide +kernel
theorem dX2_readText_34 : decode cX2_readText 34 = .ok (.ifCond .ne 31, 3) := by decide +kernel
theorem dX2_readText_37 : decode cX2_readText 37 = .ok (.aload_n 0, 1) := by decide +kernel
theorem dX2_readText_38 : decode cX2_readText 38 = .ok (.aload_n 1, 1) := by decide +kernel
theorem dX2_readText_39 : decode cX2_readText 39 = .ok (.iload_n 2, 1) := by decide +kernel
theorem dX2_readText_40 : decode cX2_readText 40 = .ok (.bipush 60, 2) := by decide +kernel
theorem dX2_readText_42 : decode cX2_readText 42 = .ok (.if_icmp .lt 7, 3) := by decide +kernel
theorem dX2_readText_45 : decode cX2_readText 45 = .ok (.iconst 1, 1) := by decide +kernel
theorem dX2_readText_46 : decode cX2_readText 46 = .ok (.goto 4, 3) := by decide +kernel
theorem dX2_readText_49 : decode cX2_readText 49 = .ok (.iconst 0, 1) := by decide +kernel
theorem dX2_readText_50 : decode cX2_readText 50 = .ok (.invokevirtual 49, 3) := by decide +kernel
theorem dX2_readText_53 : decode cX2_readText 53 = .ok (.aload_n 1, 1) := by decide +kernel
theorem dX2_readText_54 : decode cX2_readText 54 = .ok (.bipush 59, 2) := by decide +kernel
theorem dX2_readText_56 : decode cX2_readText 56 = .ok (.invokevirtual 53, 3) := by decide +kernel
theorem dX2_readText_59 : decode cX2_readText 59 = .ok (.iinc 2 1, 3) := by decide +kernel
theorem dX2_readText_62 : decode cX2_readText 62 = .ok (.goto (-45), 3) := by decide +kernel
theorem dX2_readText_65 : decode cX2_readText 65 = .ok (.aload_n 1, 1) := by decide +kernel
theorem dX2_readText_66 : decode cX2_readText 66 = .ok (.invokevirtual 46, 3) := by decide +kernel
theorem dX2_readText_69 : decode cX2_readText 69 = .ok (.ifCond .ne 7, 3) := by decide +kernel
theorem dX2_readText_72 : decode cX2_readText 72 = .ok (.iconst 1, 1) := by decide +kernel
theorem dX2_readText_73 : decode cX2_readText 73 = .ok (.goto 4, 3) := by decide +kernel
theorem dX2_readText_76 : decode cX2_readText 76 = .ok (.iconst 0, 1) := by decide +kernel
theorem dX2_readText_77 : decode cX2_readText 77 = .ok (.ireturn, 1) := by decide +kernel
theorem dX2_readClause_0 : decode cX2_readClause 0 = .ok (.aload_n 1, 1) := by decide +kernel
theorem dX2_readClause_1 : decode cX2_readClause 1 = .ok (.ldc 57, 2) := by decide +kernel
theorem dX2_readClause_3 : decode cX2_readClause 3 = .ok (.invokevirtual 59, 3) := by decide +kernel
theorem dX2_readClause_6 : decode cX2_readClause 6 = .ok (.ifCond .eq 12, 3) := by decide +kernel
theorem dX2_readClause_9 : decode cX2_readClause 9 = .ok (.aload_n 0, 1) := by decide +kernel
