theorem dX11_layAlone_58 : decode cX11_layAlone 58 = .ok (.iload_n 1, 1) := by decide +kernel
theorem dX11_layAlone_59 : decode cX11_layAlone 59 = .ok (.iaload, 1) := by decide +kernel
theorem dX11_layAlone_60 : decode cX11_layAlone 60 = .ok (.iload 5, 2) := by decide +kernel
theorem dX11_layAlone_62 : decode cX11_layAlone 62 = .ok (.aload_n 0, 1) := by decide +kernel
theorem dX11_layAlone_63 : decode cX11_layAlone 63 = .ok (.getfield 71, 3) := by decide +kernel
theorem dX11_layAlone_66 : decode cX11_layAlone 66 = .ok (.bipush 44, 2) := by decide +kernel
theorem dX11_layAlone_68 : decode cX11_layAlone 68 = .ok (.iload_n 3, 1) := by decide +kernel
theorem dX11_layAlone_69 : decode cX11_layAlone 69 = .ok (.iadd, 1) := by decide +kernel
theorem dX11_layAlone_70 : decode cX11_layAlone 70 = .ok (.iaload, 1) := by decide +kernel
theorem dX11_layAlone_71 : decode cX11_layAlone 71 = .ok (.iconst 0, 1) := by decide +kernel
theorem dX11_layAlone_72 : decode cX11_layAlone 72 = .ok (.aload_n 0, 1) := by decide +kernel
theorem dX11_layAlone_73 : decode cX11_layAlone 73 = .ok (.getfield 71, 3) := by decide +kernel
theorem dX11_layAlone_76 : decode cX11_layAlone 76 = .ok (.bipush 50, 2) := by decide +kernel
theorem dX11_layAlone_78 : decode cX11_layAlone 78 = .ok (.iaload, 1) := by decide +kernel
theorem dX11_layAlone_79 : decode cX11_layAlone 79 = .ok (.iload 6, 2) := by decide +kernel
theorem dX11_layAlone_81 : decode cX11_layAlone 81 = .ok (.iadd, 1) := by decide +kernel
theorem dX11_layAlone_82 : decode cX11_layAlone 82 = .ok (.invokevirtual 357, 3) := by decide +kernel
theorem dX11_layAlone_85 : decode cX11_layAlone 85 = .ok (.iastore, 1) := by decide +kernel
theorem dX11_layAlone_86 : decode cX11_layAlone 86 = .ok (.iload 5, 2) := by decide +kernel
theorem dX11_layAlone_88 : decode cX11_layAlone 88 = .ok (.aload_n 0, 1) := by decide +kernel
theorem dX11_layAlone_89 : decode cX11_layAlone 89 = .ok (.getfield 89, 3) := by decide +kernel
theorem dX11_layAlone_92 : decode cX11_layAlone 92 = .ok (.iload 6, 2) := by decide +kernel
theorem dX11_layAlone_94 : decode cX11_layAlone 94 = .ok (.iaload, 1) := by decide +kernel
theorem dX11_layAlone_95 : decode cX11_layAlone 95 = .ok (.iadd, 1) := by decide +kernel
theorem dX11_layAlone_96 : decode cX11_layAlone 96 = .ok (.istore 5, 2) := by decide +kernel
theorem dX11_layAlone_98 : decode cX11_layAlone 98 = .ok (.iinc 6 1, 3) := by decide +kernel
theorem dX11_layAlone_101 : decode cX11_layAlone 101 = .ok (.goto (-87), 3) := by decide +kernel
theorem dX11_layAlone_104 : decode cX11_layAlone 104 = .ok (.return_, 1) := by decide +kernel
theorem dX11_hurtBy_0 : decode cX11_hurtBy 0 = .ok (.aload_n 0, 1) := by decide +kernel
theorem dX11_hurtBy_1 : decode cX11_hurtBy 1 = .ok (.iload_n 1, 1) := by decide +kernel
theorem dX11_hurtBy_2 : decode cX11_hurtBy 2 = .ok (.iload_n 2, 1) := by decide +kernel
theorem dX11_hurtBy_3 : decode cX11_hurtBy 3 = .ok (.iload_n 3, 1) := by decide +kernel
theorem dX11_hurtBy_4 : decode cX11_hurtBy 4 = .ok (.iload 4, 2) := by decide +kernel
theorem dX11_hurtBy_6 : decode cX11_hurtBy 6 = .ok (.invokevirtual 407, 3) := by decide +kernel
theorem dX11_hurtBy_9 : decode cX11_hurtBy 9 = .ok (.iconst 0, 1) := by decide +kernel
theorem dX11_hurtBy_10 : decode cX11_hurtBy 10 = .ok (.istore 5, 2) := by decide +kernel
theorem dX11_hurtBy_12 : decode cX11_hurtBy 12 = .ok (.iconst 0, 1) := by decide +kernel
theorem dX11_hurtBy_13 : decode cX11_hurtBy 13 = .ok (.istore 6, 2) := by decide +kernel
theorem dX11_hurtBy_15 : decode cX11_hurtBy 15 = .ok (.iload 6, 2) := by decide +kernel
theorem dX11_hurtBy_17 : decode cX11_hurtBy 17 = .ok (.iload 4, 2) := by decide +kernel
theorem dX11_hurtBy_19 : decode cX11_hurtBy 19 = .ok (.if_icmp .ge 21, 3) := by decide +kernel
theorem dX11_hurtBy_22 : decode cX11_hurtBy 22 = .ok (.iload 5, 2) := by decide +kernel
theorem dX11_hurtBy_24 : decode cX11_hurtBy 24 = .ok (.aload_n 0, 1) := by decide +kernel
theorem dX11_hurtBy_25 : decode cX11_hurtBy 25 = .ok (.getfield 89, 3) := by decide +kernel
theorem dX11_hurtBy_28 : decode cX11_hurtBy 28 = .ok (.iload 6, 2) := by decide +kernel
theorem dX11_hurtBy_30 : decode cX11_hurtBy 30 = .ok (.iaload, 1) := by decide +kernel
theorem dX11_hurtBy_31 : decode cX11_hurtBy 31 = .ok (.iadd, 1) := by decide +kernel
theorem dX11_hurtBy_32 : decode cX11_hurtBy 32 = .ok (.istore 5, 2) := by decide +kernel
theorem dX11_hurtBy_34 : decode cX11_hurtBy 34 = .ok (.iinc 6 1, 3) := by decide +kernel
theorem dX11_hurtBy_37 : decode cX11_hurtBy 37 = .ok (.goto (-22), 3) := by decide +kernel
theorem dX11_hurtBy_40 : decode cX11_hurtBy 40 = .ok (.iload 5, 2) := by decide +kernel
theorem dX11_hurtBy_42 : decode cX11_hurtBy 42 = .ok (.ireturn, 1) := by decide +kernel
theorem dX11_suits_0 : decode cX11_suits 0 = .ok (.aload_n 0, 1) := by decide +kernel
theorem dX11_suits_1 : decode cX11_suits 1 = .ok (.iconst 0, 1) := by decide +kernel
theorem dX11_suits_2 : decode cX11_suits 2 = .ok (.putfield 3, 3) := by decide +kernel
theorem dX11_suits_5 : decode cX11_suits 5 = .ok (.aload_n 0, 1) := by decide +kernel
theorem dX11_suits_6 : decode cX11_suits 6 = .ok (.iload_n 1, 1) := by decide +kernel
theorem dX11_suits_7 : decode cX11_suits 7 = .ok (.iconst 1, 1) := by decide +kernel
theorem dX11_suits_8 : decode cX11_suits 8 = .ok (.invokevirtual 404, 3) := by decide +kernel
theorem dX11_suits_11 : decode cX11_suits 11 = .ok (.ifCond .eq 46, 3) := by decide +kernel
theorem dX11_suits_14 : decode cX11_suits 14 = .ok (.aload_n 0, 1) := by decide +kernel
theorem dX11_suits_15 : decode cX11_suits 15 = .ok (.iload_n 2, 1) := by decide +kernel
theorem dX11_suits_16 : decode cX11_suits 16 = .ok (.iconst 1, 1) := by decide +kernel
theorem dX11_suits_17 : decode cX11_suits 17 = .ok (.invokevirtual 401, 3) := by decide +kernel
theorem dX11_suits_20 : decode cX11_suits 20 = .ok (.ifCond .eq 37, 3) := by decide +kernel
theorem dX11_suits_23 : decode cX11_suits 23 = .ok (.aload_n 0, 1) := by decide +kernel
theorem dX11_suits_24 : decode cX11_suits 24 = .ok (.iload_n 3, 1) := by decide +kernel
theorem dX11_suits_25 : decode cX11_suits 25 = .ok (.iconst 0, 1) := by decide +kernel
theorem dX11_suits_26 : decode cX11_suits 26 = .ok (.bipush 24, 2) := by decide +kernel
theorem dX11_suits_28 : decode cX11_suits 28 = .ok (.invokestatic 383, 3) := by decide +kernel
theorem dX11_suits_31 : decode cX11_suits 31 = .ok (.ifCond .eq 17, 3) := by decide +kernel
theorem dX11_suits_34 : decode cX11_suits 34 = .ok (.iload 4, 2) := by decide +kernel
theorem dX11_suits_36 : decode cX11_suits 36 = .ok (.iconst 0, 1) := by decide +kernel
theorem dX11_suits_37 : decode cX11_suits 37 = .ok (.iconst 1, 1) := by decide +kernel
theorem dX11_suits_38 : decode cX11_suits 38 = .ok (.invokestatic 383, 3) := by decide +kernel
theorem dX11_suits_41 : decode cX11_suits 41 = .ok (.ifCond .eq 7, 3) := by decide +kernel
theorem dX11_suits_44 : decode cX11_suits 44 = .ok (.iconst 1, 1) := by decide +kernel
theorem dX11_suits_45 : decode cX11_suits 45 = .ok (.goto 4, 3) := by decide +kernel
theorem dX11_suits_48 : decode cX11_suits 48 = .ok (.iconst 0, 1) := by decide +kernel
theorem dX11_suits_49 : decode cX11_suits 49 = .ok (.iconst 2, 1) := by decide +kernel
theorem dX11_suits_50 : decode cX11_suits 50 = .ok (.iconst 1, 1) := by decide +kernel
theorem dX11_suits_51 : decode cX11_suits 51 = .ok (.invokevirtual 216, 3) := by decide +kernel
theorem dX11_suits_54 : decode cX11_suits 54 = .ok (.ifCond .ne 5, 3) := by decide +kernel
theorem dX11_suits_57 : decode cX11_suits 57 = .ok (.iconst 0, 1) := by decide +kernel
theorem dX11_suits_58 : decode cX11_suits 58 = .ok (.ireturn, 1) := by decide +kernel
theorem dX11_suits_59 : decode cX11_suits 59 = .ok (.aload_n 0, 1) := by decide +kernel
theorem dX11_suits_60 : decode cX11_suits 60 = .ok (.invokevirtual 323, 3) := by decide +kernel
theorem dX11_suits_63 : decode cX11_suits 63 = .ok (.iconst (-1), 1) := by decide +kernel
theorem dX11_suits_64 : decode cX11_suits 64 = .ok (.istore 5, 2) := by decide +kernel
theorem dX11_suits_66 : decode cX11_suits 66 = .ok (.iconst (-1), 1) := by decide +kernel
theorem dX11_suits_67 : decode cX11_suits 67 = .ok (.istore 6, 2) := by decide +kernel
theorem dX11_suits_69 : decode cX11_suits 69 = .ok (.iconst 0, 1) := by decide +kernel
theorem dX11_suits_70 : decode cX11_suits 70 = .ok (.istore 7, 2) := by decide +kernel
theorem dX11_suits_72 : decode cX11_suits 72 = .ok (.iload 7, 2) := by decide +kernel
theorem dX11_suits_74 : decode cX11_suits 74 = .ok (.aload_n 0, 1) := by decide +kernel
theorem dX11_suits_75 : decode cX11_suits 75 = .ok (.getfield 175, 3) := by decide +kernel
theorem dX11_suits_78 : decode cX11_suits 78 = .ok (.if_icmp .ge 67, 3) := by decide +kernel
theorem dX11_suits_81 : decode cX11_suits 81 = .ok (.aload_n 0, 1) := by decide +kernel
theorem dX11_suits_82 : decode cX11_suits 82 = .ok (.iload 7, 2) := by decide +kernel
theorem dX11_suits_84 : decode cX11_suits 84 = .ok (.invokevirtual 361, 3) := by decide +kernel
theorem dX11_suits_87 : decode cX11_suits 87 = .ok (.istore 8, 2) := by decide +kernel
theorem dX11_suits_89 : decode cX11_suits 89 = .ok (.iload 8, 2) := by decide +kernel
theorem dX11_suits_91 : decode cX11_suits 91 = .ok (.iconst (-1), 1) := by decide +kernel
theorem dX11_suits_92 : decode cX11_suits 92 = .ok (.if_icmp .eq 12, 3) := by decide +kernel
theorem dX11_suits_95 : decode cX11_suits 95 = .ok (.iload 8, 2) := by decide +kernel
theorem dX11_suits_97 : decode cX11_suits 97 = .ok (.iload_n 1, 1) := by decide +kernel
theorem dX11_suits_98 : decode cX11_suits 98 = .ok (.if_icmp .eq 6, 3) := by decide +kernel
theorem dX11_suits_101 : decode cX11_suits 101 = .ok (.goto 38, 3) := by decide +kernel
theorem dX11_suits_104 : decode cX11_suits 104 = .ok (.aload_n 0, 1) := by decide +kernel
theorem dX11_suits_105 : decode cX11_suits 105 = .ok (.iload_n 1, 1) := by decide +kernel
theorem dX11_suits_106 : decode cX11_suits 106 = .ok (.iload 7, 2) := by decide +kernel
theorem dX11_suits_108 : decode cX11_suits 108 = .ok (.iload_n 2, 1) := by decide +kernel
theorem dX11_suits_109 : decode cX11_suits 109 = .ok (.iload_n 3, 1) := by decide +kernel
theorem dX11_suits_110 : decode cX11_suits 110 = .ok (.invokevirtual 411, 3) := by decide +kernel
theorem dX11_suits_113 : decode cX11_suits 113 = .ok (.istore 9, 2) := by decide +kernel
theorem dX11_suits_115 : decode cX11_suits 115 = .ok (.iload 5, 2) := by decide +kernel
theorem dX11_suits_117 : decode cX11_suits 117 = .ok (.iconst (-1), 1) := by decide +kernel
theorem dX11_suits_118 : decode cX11_suits 118 = .ok (.if_icmp .eq 13, 3) := by decide +kernel
theorem dX11_suits_121 : decode cX11_suits 121 = .ok (.iload 9, 2) := by decide +kernel
theorem dX11_suits_123 : decode cX11_suits 123 = .ok (.iload 6, 2) := by decide +kernel
theorem dX11_suits_125 : decode cX11_suits 125 = .ok (.if_icmp .lt 6, 3) := by decide +kernel
theorem dX11_suits_128 : decode cX11_suits 128 = .ok (.goto 11, 3) := by decide +kernel
theorem dX11_suits_131 : decode cX11_suits 131 = .ok (.iload 7, 2) := by decide +kernel
theorem dX11_suits_133 : decode cX11_suits 133 = .ok (.istore 5, 2) := by decide +kernel
theorem dX11_suits_135 : decode cX11_suits 135 = .ok (.iload 9, 2) := by decide +kernel
theorem dX11_suits_137 : decode cX11_suits 137 = .ok (.istore 6, 2) := by decide +kernel
theorem dX11_suits_139 : decode cX11_suits 139 = .ok (.iinc 7 1, 3) := by decide +kernel
theorem dX11_suits_142 : decode cX11_suits 142 = .ok (.goto (-70), 3) := by decide +kernel
theorem dX11_suits_145 : decode cX11_suits 145 = .ok (.iload 4, 2) := by decide +kernel
theorem dX11_suits_147 : decode cX11_suits 147 = .ok (.ifCond .ne 8, 3) := by decide +kernel
theorem dX11_suits_150 : decode cX11_suits 150 = .ok (.iload 5, 2) := by decide +kernel
theorem dX11_suits_152 : decode cX11_suits 152 = .ok (.goto 5, 3) := by decide +kernel
theorem dX11_suits_155 : decode cX11_suits 155 = .ok (.iload 6, 2) := by decide +kernel
theorem dX11_suits_157 : decode cX11_suits 157 = .ok (.ireturn, 1) := by decide +kernel
theorem dX11_costOf_0 : decode cX11_costOf 0 = .ok (.aload_n 0, 1) := by decide +kernel
theorem dX11_costOf_1 : decode cX11_costOf 1 = .ok (.getfield 71, 3) := by decide +kernel
theorem dX11_costOf_4 : decode cX11_costOf 4 = .ok (.bipush 30, 2) := by decide +kernel
theorem dX11_costOf_6 : decode cX11_costOf 6 = .ok (.iload_n 1, 1) := by decide +kernel
theorem dX11_costOf_7 : decode cX11_costOf 7 = .ok (.iadd, 1) := by decide +kernel
theorem dX11_costOf_8 : decode cX11_costOf 8 = .ok (.iaload, 1) := by decide +kernel
theorem dX11_costOf_9 : decode cX11_costOf 9 = .ok (.ifCond .ne 7, 3) := by decide +kernel
theorem dX11_costOf_12 : decode cX11_costOf 12 = .ok (.iconst 0, 1) := by decide +kernel
theorem dX11_costOf_13 : decode cX11_costOf 13 = .ok (.goto 11, 3) := by decide +kernel
theorem dX11_costOf_16 : decode cX11_costOf 16 = .ok (.aload_n 0, 1) := by decide +kernel
theorem dX11_costOf_17 : decode cX11_costOf 17 = .ok (.iload_n 1, 1) := by decide +kernel
theorem dX11_costOf_18 : decode cX11_costOf 18 = .ok (.iload_n 2, 1) := by decide +kernel
theorem dX11_costOf_19 : decode cX11_costOf 19 = .ok (.iload_n 3, 1) := by decide +kernel
theorem dX11_costOf_20 : decode cX11_costOf 20 = .ok (.iconst 1, 1) := by decide +kernel
theorem dX11_costOf_21 : decode cX11_costOf 21 = .ok (.invokevirtual 411, 3) := by decide +kernel
theorem dX11_costOf_24 : decode cX11_costOf 24 = .ok (.ireturn, 1) := by decide +kernel
theorem dX11_layHatted_0 : decode cX11_layHatted 0 = .ok (.iconst 0, 1) := by decide +kernel
theorem dX11_layHatted_1 : decode cX11_layHatted 1 = .ok (.istore_n 1, 1) := by decide +kernel
theorem dX11_layHatted_2 : decode cX11_layHatted 2 = .ok (.iload_n 1, 1) := by decide +kernel
theorem dX11_layHatted_3 : decode cX11_layHatted 3 = .ok (.iconst 1, 1) := by decide +kernel
theorem dX11_layHatted_4 : decode cX11_layHatted 4 = .ok (.aload_n 0, 1) := by decide +kernel
theorem dX11_layHatted_5 : decode cX11_layHatted 5 = .ok (.getfield 175, 3) := by decide +kernel
theorem dX11_layHatted_8 : decode cX11_layHatted 8 = .ok (.ishl, 1) := by decide +kernel
theorem dX11_layHatted_9 : decode cX11_layHatted 9 = .ok (.if_icmp .ge 24, 3) := by decide +kernel
theorem dX11_layHatted_12 : decode cX11_layHatted 12 = .ok (.aload_n 0, 1) := by decide +kernel
theorem dX11_layHatted_13 : decode cX11_layHatted 13 = .ok (.getfield 92, 3) := by decide +kernel
theorem dX11_layHatted_16 : decode cX11_layHatted 16 = .ok (.aload_n 0, 1) := by decide +kernel
theorem dX11_layHatted_17 : decode cX11_layHatted 17 = .ok (.getfield 181, 3) := by decide +kernel
theorem dX11_layHatted_20 : decode cX11_layHatted 20 = .ok (.bipush 8, 2) := by decide +kernel
theorem dX11_layHatted_22 : decode cX11_layHatted 22 = .ok (.ishl, 1) := by decide +kernel
theorem dX11_layHatted_23 : decode cX11_layHatted 23 = .ok (.iload_n 1, 1) := by decide +kernel
theorem dX11_layHatted_24 : decode cX11_layHatted 24 = .ok (.ior, 1) := by decide +kernel
theorem dX11_layHatted_25 : decode cX11_layHatted 25 = .ok (.iconst 0, 1) := by decide +kernel
theorem dX11_layHatted_26 : decode cX11_layHatted 26 = .ok (.iastore, 1) := by decide +kernel
theorem dX11_layHatted_27 : decode cX11_layHatted 27 = .ok (.iinc 1 1, 3) := by decide +kernel
theorem dX11_layHatted_30 : decode cX11_layHatted 30 = .ok (.goto (-28), 3) := by decide +kernel
theorem dX11_layHatted_33 : decode cX11_layHatted 33 = .ok (.aload_n 0, 1) := by decide +kernel
theorem dX11_layHatted_34 : decode cX11_layHatted 34 = .ok (.getfield 181, 3) := by decide +kernel
theorem dX11_layHatted_37 : decode cX11_layHatted 37 = .ok (.iconst 1, 1) := by decide +kernel
theorem dX11_layHatted_38 : decode cX11_layHatted 38 = .ok (.isub, 1) := by decide +kernel
theorem dX11_layHatted_39 : decode cX11_layHatted 39 = .ok (.istore_n 1, 1) := by decide +kernel
theorem dX11_layHatted_40 : decode cX11_layHatted 40 = .ok (.iload_n 1, 1) := by decide +kernel
theorem dX11_layHatted_41 : decode cX11_layHatted 41 = .ok (.ifCond .lt 180, 3) := by decide +kernel
theorem dX11_layHatted_44 : decode cX11_layHatted 44 = .ok (.iconst 0, 1) := by decide +kernel
theorem dX11_layHatted_45 : decode cX11_layHatted 45 = .ok (.istore_n 2, 1) := by decide +kernel
theorem dX11_layHatted_46 : decode cX11_layHatted 46 = .ok (.iload_n 2, 1) := by decide +kernel
theorem dX11_layHatted_47 : decode cX11_layHatted 47 = .ok (.iconst 1, 1) := by decide +kernel
theorem dX11_layHatted_48 : decode cX11_layHatted 48 = .ok (.aload_n 0, 1) := by decide +kernel
theorem dX11_layHatted_49 : decode cX11_layHatted 49 = .ok (.getfield 175, 3) := by decide +kernel
theorem dX11_layHatted_52 : decode cX11_layHatted 52 = .ok (.ishl, 1) := by decide +kernel
theorem dX11_layHatted_53 : decode cX11_layHatted 53 = .ok (.if_icmp .ge 162, 3) := by decide +kernel
theorem dX11_layHatted_56 : decode cX11_layHatted 56 = .ok (.aload_n 0, 1) := by decide +kernel
theorem dX11_layHatted_57 : decode cX11_layHatted 57 = .ok (.getfield 71, 3) := by decide +kernel
theorem dX11_layHatted_60 : decode cX11_layHatted 60 = .ok (.bipush 30, 2) := by decide +kernel
theorem dX11_layHatted_62 : decode cX11_layHatted 62 = .ok (.iload_n 1, 1) := by decide +kernel
theorem dX11_layHatted_63 : decode cX11_layHatted 63 = .ok (.iadd, 1) := by decide +kernel
theorem dX11_layHatted_64 : decode cX11_layHatted 64 = .ok (.iaload, 1) := by decide +kernel
theorem dX11_layHatted_65 : decode cX11_layHatted 65 = .ok (.ifCond .ne 19, 3) := by decide +kernel
theorem dX11_layHatted_68 : decode cX11_layHatted 68 = .ok (.aload_n 0, 1) := by decide +kernel
theorem dX11_layHatted_69 : decode cX11_layHatted 69 = .ok (.getfield 92, 3) := by decide +kernel
theorem dX11_layHatted_72 : decode cX11_layHatted 72 = .ok (.iload_n 1, 1) := by decide +kernel
theorem dX11_layHatted_73 : decode cX11_layHatted 73 = .ok (.iconst 1, 1) := by decide +kernel
theorem dX11_layHatted_74 : decode cX11_layHatted 74 = .ok (.iadd, 1) := by decide +kernel
theorem dX11_layHatted_75 : decode cX11_layHatted 75 = .ok (.bipush 8, 2) := by decide +kernel
theorem dX11_layHatted_77 : decode cX11_layHatted 77 = .ok (.ishl, 1) := by decide +kernel
theorem dX11_layHatted_78 : decode cX11_layHatted 78 = .ok (.iload_n 2, 1) := by decide +kernel
theorem dX11_layHatted_79 : decode cX11_layHatted 79 = .ok (.ior, 1) := by decide +kernel
theorem dX11_layHatted_80 : decode cX11_layHatted 80 = .ok (.iaload, 1) := by decide +kernel
theorem dX11_layHatted_81 : decode cX11_layHatted 81 = .ok (.goto 4, 3) := by decide +kernel
theorem dX11_layHatted_84 : decode cX11_layHatted 84 = .ok (.iconst (-1), 1) := by decide +kernel
theorem dX11_layHatted_85 : decode cX11_layHatted 85 = .ok (.istore_n 3, 1) := by decide +kernel
theorem dX11_layHatted_86 : decode cX11_layHatted 86 = .ok (.iconst 0, 1) := by decide +kernel
theorem dX11_layHatted_87 : decode cX11_layHatted 87 = .ok (.istore 4, 2) := by decide +kernel
theorem dX11_layHatted_89 : decode cX11_layHatted 89 = .ok (.iload 4, 2) := by decide +kernel
theorem dX11_layHatted_91 : decode cX11_layHatted 91 = .ok (.aload_n 0, 1) := by decide +kernel
theorem dX11_layHatted_92 : decode cX11_layHatted 92 = .ok (.getfield 175, 3) := by decide +kernel
theorem dX11_layHatted_95 : decode cX11_layHatted 95 = .ok (.if_icmp .ge 102, 3) := by decide +kernel
theorem dX11_layHatted_98 : decode cX11_layHatted 98 = .ok (.aload_n 0, 1) := by decide +kernel
theorem dX11_layHatted_99 : decode cX11_layHatted 99 = .ok (.getfield 71, 3) := by decide +kernel
theorem dX11_layHatted_102 : decode cX11_layHatted 102 = .ok (.bipush 30, 2) := by decide +kernel
theorem dX11_layHatted_104 : decode cX11_layHatted 104 = .ok (.iload_n 1, 1) := by decide +kernel
theorem dX11_layHatted_105 : decode cX11_layHatted 105 = .ok (.iadd, 1) := by decide +kernel
theorem dX11_layHatted_106 : decode cX11_layHatted 106 = .ok (.iaload, 1) := by decide +kernel
theorem dX11_layHatted_107 : decode cX11_layHatted 107 = .ok (.iconst 1, 1) := by decide +kernel
theorem dX11_layHatted_108 : decode cX11_layHatted 108 = .ok (.if_icmp .ne 89, 3) := by decide +kernel
theorem dX11_layHatted_111 : decode cX11_layHatted 111 = .ok (.iload_n 2, 1) := by decide +kernel
theorem dX11_layHatted_112 : decode cX11_layHatted 112 = .ok (.iload 4, 2) := by decide +kernel
theorem dX11_layHatted_114 : decode cX11_layHatted 114 = .ok (.ishr, 1) := by decide +kernel
theorem dX11_layHatted_115 : decode cX11_layHatted 115 = .ok (.iconst 1, 1) := by decide +kernel
theorem dX11_layHatted_116 : decode cX11_layHatted 116 = .ok (.iand, 1) := by decide +kernel
theorem dX11_layHatted_117 : decode cX11_layHatted 117 = .ok (.iconst 1, 1) := by decide +kernel
theorem dX11_layHatted_118 : decode cX11_layHatted 118 = .ok (.if_icmp .ne 7, 3) := by decide +kernel
theorem dX11_layHatted_121 : decode cX11_layHatted 121 = .ok (.iconst (-1), 1) := by decide +kernel
theorem dX11_layHatted_122 : decode cX11_layHatted 122 = .ok (.goto 21, 3) := by decide +kernel
theorem dX11_layHatted_125 : decode cX11_layHatted 125 = .ok (.aload_n 0, 1) := by decide +kernel
theorem dX11_layHatted_126 : decode cX11_layHatted 126 = .ok (.getfield 92, 3) := by decide +kernel
theorem dX11_layHatted_129 : decode cX11_layHatted 129 = .ok (.iload_n 1, 1) := by decide +kernel
theorem dX11_layHatted_130 : decode cX11_layHatted 130 = .ok (.iconst 1, 1) := by decide +kernel
theorem dX11_layHatted_131 : decode cX11_layHatted 131 = .ok (.iadd, 1) := by decide +kernel
theorem dX11_layHatted_132 : decode cX11_layHatted 132 = .ok (.bipush 8, 2) := by decide +kernel
theorem dX11_layHatted_134 : decode cX11_layHatted 134 = .ok (.ishl, 1) := by decide +kernel
theorem dX11_layHatted_135 : decode cX11_layHatted 135 = .ok (.iload_n 2, 1) := by decide +kernel
theorem dX11_layHatted_136 : decode cX11_layHatted 136 = .ok (.ior, 1) := by decide +kernel
theorem dX11_layHatted_137 : decode cX11_layHatted 137 = .ok (.iconst 1, 1) := by decide +kernel
theorem dX11_layHatted_138 : decode cX11_layHatted 138 = .ok (.iload 4, 2) := by decide +kernel
theorem dX11_layHatted_140 : decode cX11_layHatted 140 = .ok (.ishl, 1) := by decide +kernel
theorem dX11_layHatted_141 : decode cX11_layHatted 141 = .ok (.ior, 1) := by decide +kernel
theorem dX11_layHatted_142 : decode cX11_layHatted 142 = .ok (.iaload, 1) := by decide +kernel
theorem dX11_layHatted_143 : decode cX11_layHatted 143 = .ok (.istore 5, 2) := by decide +kernel
theorem dX11_layHatted_145 : decode cX11_layHatted 145 = .ok (.iload 5, 2) := by decide +kernel
theorem dX11_layHatted_147 : decode cX11_layHatted 147 = .ok (.iconst (-1), 1) := by decide +kernel
theorem dX11_layHatted_148 : decode cX11_layHatted 148 = .ok (.if_icmp .eq 43, 3) := by decide +kernel
theorem dX11_layHatted_151 : decode cX11_layHatted 151 = .ok (.iload_n 3, 1) := by decide +kernel
theorem dX11_layHatted_152 : decode cX11_layHatted 152 = .ok (.iconst (-1), 1) := by decide +kernel
theorem dX11_layHatted_153 : decode cX11_layHatted 153 = .ok (.if_icmp .eq 22, 3) := by decide +kernel
theorem dX11_layHatted_156 : decode cX11_layHatted 156 = .ok (.aload_n 0, 1) := by decide +kernel
theorem dX11_layHatted_157 : decode cX11_layHatted 157 = .ok (.getfield 98, 3) := by decide +kernel
theorem dX11_layHatted_160 : decode cX11_layHatted 160 = .ok (.bipush 8, 2) := by decide +kernel
theorem dX11_layHatted_162 : decode cX11_layHatted 162 = .ok (.iload_n 1, 1) := by decide +kernel
theorem dX11_layHatted_163 : decode cX11_layHatted 163 = .ok (.imul, 1) := by decide +kernel
theorem dX11_layHatted_164 : decode cX11_layHatted 164 = .ok (.iload 4, 2) := by decide +kernel
theorem dX11_layHatted_166 : decode cX11_layHatted 166 = .ok (.iadd, 1) := by decide +kernel
theorem dX11_layHatted_167 : decode cX11_layHatted 167 = .ok (.iaload, 1) := by decide +kernel
theorem dX11_layHatted_168 : decode cX11_layHatted 168 = .ok (.iload 5, 2) := by decide +kernel
theorem dX11_layHatted_170 : decode cX11_layHatted 170 = .ok (.iadd, 1) := by decide +kernel
theorem dX11_layHatted_171 : decode cX11_layHatted 171 = .ok (.iload_n 3, 1) := by decide +kernel
theorem dX11_layHatted_172 : decode cX11_layHatted 172 = .ok (.if_icmp .ge 19, 3) := by decide +kernel
theorem dX11_layHatted_175 : decode cX11_layHatted 175 = .ok (.aload_n 0, 1) := by decide +kernel
theorem dX11_layHatted_176 : decode cX11_layHatted 176 = .ok (.getfield 98, 3) := by decide +kernel
theorem dX11_layHatted_179 : decode cX11_layHatted 179 = .ok (.bipush 8, 2) := by decide +kernel
theorem dX11_layHatted_181 : decode cX11_layHatted 181 = .ok (.iload_n 1, 1) := by decide +kernel
theorem dX11_layHatted_182 : decode cX11_layHatted 182 = .ok (.imul, 1) := by decide +kernel
theorem dX11_layHatted_183 : decode cX11_layHatted 183 = .ok (.iload 4, 2) := by decide +kernel
theorem dX11_layHatted_185 : decode cX11_layHatted 185 = .ok (.iadd, 1) := by decide +kernel
theorem dX11_layHatted_186 : decode cX11_layHatted 186 = .ok (.iaload, 1) := by decide +kernel
theorem dX11_layHatted_187 : decode cX11_layHatted 187 = .ok (.iload 5, 2) := by decide +kernel
theorem dX11_layHatted_189 : decode cX11_layHatted 189 = .ok (.iadd, 1) := by decide +kernel
theorem dX11_layHatted_190 : decode cX11_layHatted 190 = .ok (.istore_n 3, 1) := by decide +kernel
theorem dX11_layHatted_191 : decode cX11_layHatted 191 = .ok (.iinc 4 1, 3) := by decide +kernel
theorem dX11_layHatted_194 : decode cX11_layHatted 194 = .ok (.goto (-105), 3) := by decide +kernel
theorem dX11_layHatted_197 : decode cX11_layHatted 197 = .ok (.aload_n 0, 1) := by decide +kernel
theorem dX11_layHatted_198 : decode cX11_layHatted 198 = .ok (.getfield 92, 3) := by decide +kernel
theorem dX11_layHatted_201 : decode cX11_layHatted 201 = .ok (.iload_n 1, 1) := by decide +kernel
theorem dX11_layHatted_202 : decode cX11_layHatted 202 = .ok (.bipush 8, 2) := by decide +kernel
theorem dX11_layHatted_204 : decode cX11_layHatted 204 = .ok (.ishl, 1) := by decide +kernel
theorem dX11_layHatted_205 : decode cX11_layHatted 205 = .ok (.iload_n 2, 1) := by decide +kernel
theorem dX11_layHatted_206 : decode cX11_layHatted 206 = .ok (.ior, 1) := by decide +kernel
theorem dX11_layHatted_207 : decode cX11_layHatted 207 = .ok (.iload_n 3, 1) := by decide +kernel
theorem dX11_layHatted_208 : decode cX11_layHatted 208 = .ok (.iastore, 1) := by decide +kernel
theorem dX11_layHatted_209 : decode cX11_layHatted 209 = .ok (.iinc 2 1, 3) := by decide +kernel
theorem dX11_layHatted_212 : decode cX11_layHatted 212 = .ok (.goto (-166), 3) := by decide +kernel
theorem dX11_layHatted_215 : decode cX11_layHatted 215 = .ok (.iinc 1 (-1), 3) := by decide +kernel
theorem dX11_layHatted_218 : decode cX11_layHatted 218 = .ok (.goto (-178), 3) := by decide +kernel
theorem dX11_layHatted_221 : decode cX11_layHatted 221 = .ok (.return_, 1) := by decide +kernel
theorem dX11_findHatted_0 : decode cX11_findHatted 0 = .ok (.iconst 0, 1) := by decide +kernel
theorem dX11_findHatted_1 : decode cX11_findHatted 1 = .ok (.istore_n 2, 1) := by decide +kernel
theorem dX11_findHatted_2 : decode cX11_findHatted 2 = .ok (.iload_n 2, 1) := by decide +kernel
theorem dX11_findHatted_3 : decode cX11_findHatted 3 = .ok (.aload_n 0, 1) := by decide +kernel
theorem dX11_findHatted_4 : decode cX11_findHatted 4 = .ok (.getfield 181, 3) := by decide +kernel
theorem dX11_findHatted_7 : decode cX11_findHatted 7 = .ok (.if_icmp .ge 43, 3) := by decide +kernel
theorem dX11_findHatted_10 : decode cX11_findHatted 10 = .ok (.iconst 0, 1) := by decide +kernel
theorem dX11_findHatted_11 : decode cX11_findHatted 11 = .ok (.istore_n 3, 1) := by decide +kernel
theorem dX11_findHatted_12 : decode cX11_findHatted 12 = .ok (.iload_n 3, 1) := by decide +kernel
theorem dX11_findHatted_13 : decode cX11_findHatted 13 = .ok (.aload_n 0, 1) := by decide +kernel
theorem dX11_findHatted_14 : decode cX11_findHatted 14 = .ok (.getfield 175, 3) := by decide +kernel
theorem dX11_findHatted_17 : decode cX11_findHatted 17 = .ok (.if_icmp .ge 27, 3) := by decide +kernel
theorem dX11_findHatted_20 : decode cX11_findHatted 20 = .ok (.aload_n 0, 1) := by decide +kernel
theorem dX11_findHatted_21 : decode cX11_findHatted 21 = .ok (.getfield 98, 3) := by decide +kernel
theorem dX11_findHatted_24 : decode cX11_findHatted 24 = .ok (.bipush 8, 2) := by decide +kernel
theorem dX11_findHatted_26 : decode cX11_findHatted 26 = .ok (.iload_n 2, 1) := by decide +kernel
theorem dX11_findHatted_27 : decode cX11_findHatted 27 = .ok (.imul, 1) := by decide +kernel
theorem dX11_findHatted_28 : decode cX11_findHatted 28 = .ok (.iload_n 3, 1) := by decide +kernel
theorem dX11_findHatted_29 : decode cX11_findHatted 29 = .ok (.iadd, 1) := by decide +kernel
theorem dX11_findHatted_30 : decode cX11_findHatted 30 = .ok (.aload_n 0, 1) := by decide +kernel
theorem dX11_findHatted_31 : decode cX11_findHatted 31 = .ok (.iload_n 2, 1) := by decide +kernel
theorem dX11_findHatted_32 : decode cX11_findHatted 32 = .ok (.iload_n 3, 1) := by decide +kernel
theorem dX11_findHatted_33 : decode cX11_findHatted 33 = .ok (.iload_n 1, 1) := by decide +kernel
theorem dX11_findHatted_34 : decode cX11_findHatted 34 = .ok (.invokevirtual 415, 3) := by decide +kernel
theorem dX11_findHatted_37 : decode cX11_findHatted 37 = .ok (.iastore, 1) := by decide +kernel
theorem dX11_findHatted_38 : decode cX11_findHatted 38 = .ok (.iinc 3 1, 3) := by decide +kernel
theorem dX11_findHatted_41 : decode cX11_findHatted 41 = .ok (.goto (-29), 3) := by decide +kernel
theorem dX11_findHatted_44 : decode cX11_findHatted 44 = .ok (.iinc 2 1, 3) := by decide +kernel
theorem dX11_findHatted_47 : decode cX11_findHatted 47 = .ok (.goto (-45), 3) := by decide +kernel
theorem dX11_findHatted_50 : decode cX11_findHatted 50 = .ok (.aload_n 0, 1) := by decide +kernel
theorem dX11_findHatted_51 : decode cX11_findHatted 51 = .ok (.invokevirtual 418, 3) := by decide +kernel
theorem dX11_findHatted_54 : decode cX11_findHatted 54 = .ok (.iconst 0, 1) := by decide +kernel
theorem dX11_findHatted_55 : decode cX11_findHatted 55 = .ok (.istore_n 2, 1) := by decide +kernel
theorem dX11_findHatted_56 : decode cX11_findHatted 56 = .ok (.iconst 0, 1) := by decide +kernel
theorem dX11_findHatted_57 : decode cX11_findHatted 57 = .ok (.istore_n 3, 1) := by decide +kernel
theorem dX11_findHatted_58 : decode cX11_findHatted 58 = .ok (.iload_n 3, 1) := by decide +kernel
theorem dX11_findHatted_59 : decode cX11_findHatted 59 = .ok (.aload_n 0, 1) := by decide +kernel
theorem dX11_findHatted_60 : decode cX11_findHatted 60 = .ok (.getfield 181, 3) := by decide +kernel
theorem dX11_findHatted_63 : decode cX11_findHatted 63 = .ok (.if_icmp .ge 156, 3) := by decide +kernel
theorem dX11_findHatted_66 : decode cX11_findHatted 66 = .ok (.aload_n 0, 1) := by decide +kernel
theorem dX11_findHatted_67 : decode cX11_findHatted 67 = .ok (.getfield 95, 3) := by decide +kernel
theorem dX11_findHatted_70 : decode cX11_findHatted 70 = .ok (.iload_n 3, 1) := by decide +kernel
theorem dX11_findHatted_71 : decode cX11_findHatted 71 = .ok (.iconst (-1), 1) := by decide +kernel
theorem dX11_findHatted_72 : decode cX11_findHatted 72 = .ok (.iastore, 1) := by decide +kernel
theorem dX11_findHatted_73 : decode cX11_findHatted 73 = .ok (.aload_n 0, 1) := by decide +kernel
theorem dX11_findHatted_74 : decode cX11_findHatted 74 = .ok (.getfield 175, 3) := by decide +kernel
theorem dX11_findHatted_77 : decode cX11_findHatted 77 = .ok (.iconst 1, 1) := by decide +kernel
theorem dX11_findHatted_78 : decode cX11_findHatted 78 = .ok (.isub, 1) := by decide +kernel
theorem dX11_findHatted_79 : decode cX11_findHatted 79 = .ok (.istore 4, 2) := by decide +kernel
theorem dX11_findHatted_81 : decode cX11_findHatted 81 = .ok (.iload 4, 2) := by decide +kernel
theorem dX11_findHatted_83 : decode cX11_findHatted 83 = .ok (.ifCond .lt 109, 3) := by decide +kernel
theorem dX11_findHatted_86 : decode cX11_findHatted 86 = .ok (.aload_n 0, 1) := by decide +kernel
theorem dX11_findHatted_87 : decode cX11_findHatted 87 = .ok (.getfield 71, 3) := by decide +kernel
theorem dX11_findHatted_90 : decode cX11_findHatted 90 = .ok (.bipush 30, 2) := by decide +kernel
theorem dX11_findHatted_92 : decode cX11_findHatted 92 = .ok (.iload_n 3, 1) := by decide +kernel
theorem dX11_findHatted_93 : decode cX11_findHatted 93 = .ok (.iadd, 1) := by decide +kernel
theorem dX11_findHatted_94 : decode cX11_findHatted 94 = .ok (.iaload, 1) := by decide +kernel
theorem dX11_findHatted_95 : decode cX11_findHatted 95 = .ok (.iconst 1, 1) := by decide +kernel
theorem dX11_findHatted_96 : decode cX11_findHatted 96 = .ok (.if_icmp .ne 96, 3) := by decide +kernel
theorem dX11_findHatted_99 : decode cX11_findHatted 99 = .ok (.aload_n 0, 1) := by decide +kernel
theorem dX11_findHatted_100 : decode cX11_findHatted 100 = .ok (.getfield 92, 3) := by decide +kernel
theorem dX11_findHatted_103 : decode cX11_findHatted 103 = .ok (.iconst 0, 1) := by decide +kernel
theorem dX11_findHatted_104 : decode cX11_findHatted 104 = .ok (.iaload, 1) := by decide +kernel
theorem dX11_findHatted_105 : decode cX11_findHatted 105 = .ok (.iconst (-1), 1) := by decide +kernel
theorem dX11_findHatted_106 : decode cX11_findHatted 106 = .ok (.if_icmp .eq 86, 3) := by decide +kernel
theorem dX11_findHatted_109 : decode cX11_findHatted 109 = .ok (.iload_n 2, 1) := by decide +kernel
theorem dX11_findHatted_110 : decode cX11_findHatted 110 = .ok (.iload 4, 2) := by decide +kernel
theorem dX11_findHatted_112 : decode cX11_findHatted 112 = .ok (.ishr, 1) := by decide +kernel
theorem dX11_findHatted_113 : decode cX11_findHatted 113 = .ok (.iconst 1, 1) := by decide +kernel
theorem dX11_findHatted_114 : decode cX11_findHatted 114 = .ok (.iand, 1) := by decide +kernel
theorem dX11_findHatted_115 : decode cX11_findHatted 115 = .ok (.iconst 1, 1) := by decide +kernel
theorem dX11_findHatted_116 : decode cX11_findHatted 116 = .ok (.if_icmp .ne 7, 3) := by decide +kernel
theorem dX11_findHatted_119 : decode cX11_findHatted 119 = .ok (.iconst (-1), 1) := by decide +kernel
theorem dX11_findHatted_120 : decode cX11_findHatted 120 = .ok (.goto 21, 3) := by decide +kernel
theorem dX11_findHatted_123 : decode cX11_findHatted 123 = .ok (.aload_n 0, 1) := by decide +kernel
theorem dX11_findHatted_124 : decode cX11_findHatted 124 = .ok (.getfield 92, 3) := by decide +kernel
theorem dX11_findHatted_127 : decode cX11_findHatted 127 = .ok (.iload_n 3, 1) := by decide +kernel
theorem dX11_findHatted_128 : decode cX11_findHatted 128 = .ok (.iconst 1, 1) := by decide +kernel
theorem dX11_findHatted_129 : decode cX11_findHatted 129 = .ok (.iadd, 1) := by decide +kernel
theorem dX11_findHatted_130 : decode cX11_findHatted 130 = .ok (.bipush 8, 2) := by decide +kernel
theorem dX11_findHatted_132 : decode cX11_findHatted 132 = .ok (.ishl, 1) := by decide +kernel
theorem dX11_findHatted_133 : decode cX11_findHatted 133 = .ok (.iload_n 2, 1) := by decide +kernel
theorem dX11_findHatted_134 : decode cX11_findHatted 134 = .ok (.ior, 1) := by decide +kernel
theorem dX11_findHatted_135 : decode cX11_findHatted 135 = .ok (.iconst 1, 1) := by decide +kernel
theorem dX11_findHatted_136 : decode cX11_findHatted 136 = .ok (.iload 4, 2) := by decide +kernel
theorem dX11_findHatted_138 : decode cX11_findHatted 138 = .ok (.ishl, 1) := by decide +kernel
theorem dX11_findHatted_139 : decode cX11_findHatted 139 = .ok (.ior, 1) := by decide +kernel
theorem dX11_findHatted_140 : decode cX11_findHatted 140 = .ok (.iaload, 1) := by decide +kernel
theorem dX11_findHatted_141 : decode cX11_findHatted 141 = .ok (.istore 5, 2) := by decide +kernel
theorem dX11_findHatted_143 : decode cX11_findHatted 143 = .ok (.iload 5, 2) := by decide +kernel
theorem dX11_findHatted_145 : decode cX11_findHatted 145 = .ok (.iconst (-1), 1) := by decide +kernel
theorem dX11_findHatted_146 : decode cX11_findHatted 146 = .ok (.if_icmp .eq 40, 3) := by decide +kernel
theorem dX11_findHatted_149 : decode cX11_findHatted 149 = .ok (.aload_n 0, 1) := by decide +kernel
theorem dX11_findHatted_150 : decode cX11_findHatted 150 = .ok (.getfield 98, 3) := by decide +kernel
theorem dX11_findHatted_153 : decode cX11_findHatted 153 = .ok (.bipush 8, 2) := by decide +kernel
theorem dX11_findHatted_155 : decode cX11_findHatted 155 = .ok (.iload_n 3, 1) := by decide +kernel
theorem dX11_findHatted_156 : decode cX11_findHatted 156 = .ok (.imul, 1) := by decide +kernel
theorem dX11_findHatted_157 : decode cX11_findHatted 157 = .ok (.iload 4, 2) := by decide +kernel
theorem dX11_findHatted_159 : decode cX11_findHatted 159 = .ok (.iadd, 1) := by decide +kernel
theorem dX11_findHatted_160 : decode cX11_findHatted 160 = .ok (.iaload, 1) := by decide +kernel
theorem dX11_findHatted_161 : decode cX11_findHatted 161 = .ok (.iload 5, 2) := by decide +kernel
theorem dX11_findHatted_163 : decode cX11_findHatted 163 = .ok (.iadd, 1) := by decide +kernel
theorem dX11_findHatted_164 : decode cX11_findHatted 164 = .ok (.aload_n 0, 1) := by decide +kernel
theorem dX11_findHatted_165 : decode cX11_findHatted 165 = .ok (.getfield 92, 3) := by decide +kernel
theorem dX11_findHatted_168 : decode cX11_findHatted 168 = .ok (.iload_n 3, 1) := by decide +kernel
theorem dX11_findHatted_169 : decode cX11_findHatted 169 = .ok (.bipush 8, 2) := by decide +kernel
theorem dX11_findHatted_171 : decode cX11_findHatted 171 = .ok (.ishl, 1) := by decide +kernel
theorem dX11_findHatted_172 : decode cX11_findHatted 172 = .ok (.iload_n 2, 1) := by decide +kernel
theorem dX11_findHatted_173 : decode cX11_findHatted 173 = .ok (.ior, 1) := by decide +kernel
theorem dX11_findHatted_174 : decode cX11_findHatted 174 = .ok (.iaload, 1) := by decide +kernel
theorem dX11_findHatted_175 : decode cX11_findHatted 175 = .ok (.if_icmp .ne 11, 3) := by decide +kernel
theorem dX11_findHatted_178 : decode cX11_findHatted 178 = .ok (.aload_n 0, 1) := by decide +kernel
