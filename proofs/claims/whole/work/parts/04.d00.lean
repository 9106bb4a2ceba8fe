theorem dX0_init_0 : decode cX0_init 0 = .ok (.aload_n 0, 1) := by decide +kernel
theorem dX0_init_1 : decode cX0_init 1 = .ok (.invokespecial 3, 3) := by decide +kernel
theorem dX0_init_4 : decode cX0_init 4 = .ok (.aload_n 0, 1) := by decide +kernel
theorem dX0_init_5 : decode cX0_init 5 = .ok (.sipush 1152, 3) := by decide +kernel
theorem dX0_init_8 : decode cX0_init 8 = .ok (.newarray .int, 2) := by decide +kernel
theorem dX0_init_10 : decode cX0_init 10 = .ok (.putfield 11, 3) := by decide +kernel
theorem dX0_init_13 : decode cX0_init 13 = .ok (.aload_n 0, 1) := by decide +kernel
theorem dX0_init_14 : decode cX0_init 14 = .ok (.bipush 100, 2) := by decide +kernel
theorem dX0_init_16 : decode cX0_init 16 = .ok (.newarray .int, 2) := by decide +kernel
theorem dX0_init_18 : decode cX0_init 18 = .ok (.putfield 15, 3) := by decide +kernel
theorem dX0_init_21 : decode cX0_init 21 = .ok (.aload_n 0, 1) := by decide +kernel
theorem dX0_init_22 : decode cX0_init 22 = .ok (.bipush 48, 2) := by decide +kernel
theorem dX0_init_24 : decode cX0_init 24 = .ok (.newarray .int, 2) := by decide +kernel
theorem dX0_init_26 : decode cX0_init 26 = .ok (.putfield 18, 3) := by decide +kernel
theorem dX0_init_29 : decode cX0_init 29 = .ok (.aload_n 0, 1) := by decide +kernel
theorem dX0_init_30 : decode cX0_init 30 = .ok (.sipush 256, 3) := by decide +kernel
theorem dX0_init_33 : decode cX0_init 33 = .ok (.newarray .int, 2) := by decide +kernel
theorem dX0_init_35 : decode cX0_init 35 = .ok (.putfield 21, 3) := by decide +kernel
theorem dX0_init_38 : decode cX0_init 38 = .ok (.aload_n 0, 1) := by decide +kernel
theorem dX0_init_39 : decode cX0_init 39 = .ok (.bipush 6, 2) := by decide +kernel
theorem dX0_init_41 : decode cX0_init 41 = .ok (.newarray .int, 2) := by decide +kernel
theorem dX0_init_43 : decode cX0_init 43 = .ok (.putfield 24, 3) := by decide +kernel
theorem dX0_init_46 : decode cX0_init 46 = .ok (.aload_n 0, 1) := by decide +kernel
theorem dX0_init_47 : decode cX0_init 47 = .ok (.bipush 6, 2) := by decide +kernel
theorem dX0_init_49 : decode cX0_init 49 = .ok (.newarray .int, 2) := by decide +kernel
theorem dX0_init_51 : decode cX0_init 51 = .ok (.putfield 27, 3) := by decide +kernel
theorem dX0_init_54 : decode cX0_init 54 = .ok (.return_, 1) := by decide +kernel
theorem dX0_chooseHat_0 : decode cX0_chooseHat 0 = .ok (.aload_n 0, 1) := by decide +kernel
theorem dX0_chooseHat_1 : decode cX0_chooseHat 1 = .ok (.iconst (-1), 1) := by decide +kernel
theorem dX0_chooseHat_2 : decode cX0_chooseHat 2 = .ok (.putfield 30, 3) := by decide +kernel
theorem dX0_chooseHat_5 : decode cX0_chooseHat 5 = .ok (.aload_n 0, 1) := by decide +kernel
theorem dX0_chooseHat_6 : decode cX0_chooseHat 6 = .ok (.iconst (-1), 1) := by decide +kernel
theorem dX0_chooseHat_7 : decode cX0_chooseHat 7 = .ok (.putfield 34, 3) := by decide +kernel
theorem dX0_chooseHat_10 : decode cX0_chooseHat 10 = .ok (.iconst 0, 1) := by decide +kernel
theorem dX0_chooseHat_11 : decode cX0_chooseHat 11 = .ok (.istore 6, 2) := by decide +kernel
theorem dX0_chooseHat_13 : decode cX0_chooseHat 13 = .ok (.iload 6, 2) := by decide +kernel
theorem dX0_chooseHat_15 : decode cX0_chooseHat 15 = .ok (.aload_n 1, 1) := by decide +kernel
theorem dX0_chooseHat_16 : decode cX0_chooseHat 16 = .ok (.getfield 37, 3) := by decide +kernel
theorem dX0_chooseHat_19 : decode cX0_chooseHat 19 = .ok (.getfield 43, 3) := by decide +kernel
theorem dX0_chooseHat_22 : decode cX0_chooseHat 22 = .ok (.if_icmp .ge 99, 3) := by decide +kernel
theorem dX0_chooseHat_25 : decode cX0_chooseHat 25 = .ok (.aload_n 2, 1) := by decide +kernel
theorem dX0_chooseHat_26 : decode cX0_chooseHat 26 = .ok (.iload 6, 2) := by decide +kernel
theorem dX0_chooseHat_28 : decode cX0_chooseHat 28 = .ok (.invokevirtual 48, 3) := by decide +kernel
theorem dX0_chooseHat_31 : decode cX0_chooseHat 31 = .ok (.istore 7, 2) := by decide +kernel
theorem dX0_chooseHat_33 : decode cX0_chooseHat 33 = .ok (.iload 7, 2) := by decide +kernel
theorem dX0_chooseHat_35 : decode cX0_chooseHat 35 = .ok (.iconst (-1), 1) := by decide +kernel
theorem dX0_chooseHat_36 : decode cX0_chooseHat 36 = .ok (.if_icmp .eq 12, 3) := by decide +kernel
theorem dX0_chooseHat_39 : decode cX0_chooseHat 39 = .ok (.iload 7, 2) := by decide +kernel
theorem dX0_chooseHat_41 : decode cX0_chooseHat 41 = .ok (.iload_n 3, 1) := by decide +kernel
theorem dX0_chooseHat_42 : decode cX0_chooseHat 42 = .ok (.if_icmp .eq 6, 3) := by decide +kernel
theorem dX0_chooseHat_45 : decode cX0_chooseHat 45 = .ok (.goto 70, 3) := by decide +kernel
theorem dX0_chooseHat_48 : decode cX0_chooseHat 48 = .ok (.aload_n 1, 1) := by decide +kernel
theorem dX0_chooseHat_49 : decode cX0_chooseHat 49 = .ok (.aload_n 2, 1) := by decide +kernel
theorem dX0_chooseHat_50 : decode cX0_chooseHat 50 = .ok (.iload_n 3, 1) := by decide +kernel
theorem dX0_chooseHat_51 : decode cX0_chooseHat 51 = .ok (.iload 6, 2) := by decide +kernel
theorem dX0_chooseHat_53 : decode cX0_chooseHat 53 = .ok (.iload 4, 2) := by decide +kernel
theorem dX0_chooseHat_55 : decode cX0_chooseHat 55 = .ok (.invokevirtual 54, 3) := by decide +kernel
theorem dX0_chooseHat_58 : decode cX0_chooseHat 58 = .ok (.iconst 0, 1) := by decide +kernel
theorem dX0_chooseHat_59 : decode cX0_chooseHat 59 = .ok (.istore 8, 2) := by decide +kernel
theorem dX0_chooseHat_61 : decode cX0_chooseHat 61 = .ok (.iconst 0, 1) := by decide +kernel
theorem dX0_chooseHat_62 : decode cX0_chooseHat 62 = .ok (.istore 9, 2) := by decide +kernel
theorem dX0_chooseHat_64 : decode cX0_chooseHat 64 = .ok (.iload 9, 2) := by decide +kernel
theorem dX0_chooseHat_66 : decode cX0_chooseHat 66 = .ok (.iload 5, 2) := by decide +kernel
theorem dX0_chooseHat_68 : decode cX0_chooseHat 68 = .ok (.if_icmp .ge 18, 3) := by decide +kernel
theorem dX0_chooseHat_71 : decode cX0_chooseHat 71 = .ok (.iload 8, 2) := by decide +kernel
theorem dX0_chooseHat_73 : decode cX0_chooseHat 73 = .ok (.aload_n 1, 1) := by decide +kernel
theorem dX0_chooseHat_74 : decode cX0_chooseHat 74 = .ok (.invokevirtual 58, 3) := by decide +kernel
theorem dX0_chooseHat_77 : decode cX0_chooseHat 77 = .ok (.iadd, 1) := by decide +kernel
theorem dX0_chooseHat_78 : decode cX0_chooseHat 78 = .ok (.istore 8, 2) := by decide +kernel
theorem dX0_chooseHat_80 : decode cX0_chooseHat 80 = .ok (.iinc 9 1, 3) := by decide +kernel
theorem dX0_chooseHat_83 : decode cX0_chooseHat 83 = .ok (.goto (-19), 3) := by decide +kernel
theorem dX0_chooseHat_86 : decode cX0_chooseHat 86 = .ok (.aload_n 0, 1) := by decide +kernel
theorem dX0_chooseHat_87 : decode cX0_chooseHat 87 = .ok (.getfield 30, 3) := by decide +kernel
theorem dX0_chooseHat_90 : decode cX0_chooseHat 90 = .ok (.iconst (-1), 1) := by decide +kernel
theorem dX0_chooseHat_91 : decode cX0_chooseHat 91 = .ok (.if_icmp .eq 12, 3) := by decide +kernel
theorem dX0_chooseHat_94 : decode cX0_chooseHat 94 = .ok (.iload 8, 2) := by decide +kernel
theorem dX0_chooseHat_96 : decode cX0_chooseHat 96 = .ok (.aload_n 0, 1) := by decide +kernel
theorem dX0_chooseHat_97 : decode cX0_chooseHat 97 = .ok (.getfield 34, 3) := by decide +kernel
theorem dX0_chooseHat_100 : decode cX0_chooseHat 100 = .ok (.if_icmp .ge 15, 3) := by decide +kernel
theorem dX0_chooseHat_103 : decode cX0_chooseHat 103 = .ok (.aload_n 0, 1) := by decide +kernel
theorem dX0_chooseHat_104 : decode cX0_chooseHat 104 = .ok (.iload 6, 2) := by decide +kernel
theorem dX0_chooseHat_106 : decode cX0_chooseHat 106 = .ok (.putfield 30, 3) := by decide +kernel
theorem dX0_chooseHat_109 : decode cX0_chooseHat 109 = .ok (.aload_n 0, 1) := by decide +kernel
theorem dX0_chooseHat_110 : decode cX0_chooseHat 110 = .ok (.iload 8, 2) := by decide +kernel
theorem dX0_chooseHat_112 : decode cX0_chooseHat 112 = .ok (.putfield 34, 3) := by decide +kernel
theorem dX0_chooseHat_115 : decode cX0_chooseHat 115 = .ok (.iinc 6 1, 3) := by decide +kernel
theorem dX0_chooseHat_118 : decode cX0_chooseHat 118 = .ok (.goto (-105), 3) := by decide +kernel
theorem dX0_chooseHat_121 : decode cX0_chooseHat 121 = .ok (.return_, 1) := by decide +kernel
theorem dX0_giveHats_0 : decode cX0_giveHats 0 = .ok (.aload_n 0, 1) := by decide +kernel
theorem dX0_giveHats_1 : decode cX0_giveHats 1 = .ok (.getfield 24, 3) := by decide +kernel
theorem dX0_giveHats_4 : decode cX0_giveHats 4 = .ok (.iconst (-1), 1) := by decide +kernel
theorem dX0_giveHats_5 : decode cX0_giveHats 5 = .ok (.invokestatic 62, 3) := by decide +kernel
theorem dX0_giveHats_8 : decode cX0_giveHats 8 = .ok (.aload_n 1, 1) := by decide +kernel
theorem dX0_giveHats_9 : decode cX0_giveHats 9 = .ok (.getfield 37, 3) := by decide +kernel
theorem dX0_giveHats_12 : decode cX0_giveHats 12 = .ok (.getfield 43, 3) := by decide +kernel
theorem dX0_giveHats_15 : decode cX0_giveHats 15 = .ok (.istore 4, 2) := by decide +kernel
theorem dX0_giveHats_17 : decode cX0_giveHats 17 = .ok (.aload_n 2, 1) := by decide +kernel
theorem dX0_giveHats_18 : decode cX0_giveHats 18 = .ok (.getfield 68, 3) := by decide +kernel
theorem dX0_giveHats_21 : decode cX0_giveHats 21 = .ok (.invokestatic 71, 3) := by decide +kernel
theorem dX0_giveHats_24 : decode cX0_giveHats 24 = .ok (.istore 5, 2) := by decide +kernel
theorem dX0_giveHats_26 : decode cX0_giveHats 26 = .ok (.iload 5, 2) := by decide +kernel
theorem dX0_giveHats_28 : decode cX0_giveHats 28 = .ok (.iload 4, 2) := by decide +kernel
theorem dX0_giveHats_30 : decode cX0_giveHats 30 = .ok (.if_icmp .le 5, 3) := by decide +kernel
theorem dX0_giveHats_33 : decode cX0_giveHats 33 = .ok (.iconst (-1), 1) := by decide +kernel
theorem dX0_giveHats_34 : decode cX0_giveHats 34 = .ok (.ireturn, 1) := by decide +kernel
theorem dX0_giveHats_35 : decode cX0_giveHats 35 = .ok (.aload_n 0, 1) := by decide +kernel
theorem dX0_giveHats_36 : decode cX0_giveHats 36 = .ok (.aload_n 1, 1) := by decide +kernel
theorem dX0_giveHats_37 : decode cX0_giveHats 37 = .ok (.aload_n 2, 1) := by decide +kernel
theorem dX0_giveHats_38 : decode cX0_giveHats 38 = .ok (.iload_n 3, 1) := by decide +kernel
theorem dX0_giveHats_39 : decode cX0_giveHats 39 = .ok (.invokevirtual 76, 3) := by decide +kernel
theorem dX0_giveHats_42 : decode cX0_giveHats 42 = .ok (.aload_n 0, 1) := by decide +kernel
theorem dX0_giveHats_43 : decode cX0_giveHats 43 = .ok (.iload 4, 2) := by decide +kernel
theorem dX0_giveHats_45 : decode cX0_giveHats 45 = .ok (.iload 5, 2) := by decide +kernel
theorem dX0_giveHats_47 : decode cX0_giveHats 47 = .ok (.invokevirtual 80, 3) := by decide +kernel
theorem dX0_giveHats_50 : decode cX0_giveHats 50 = .ok (.iconst 0, 1) := by decide +kernel
theorem dX0_giveHats_51 : decode cX0_giveHats 51 = .ok (.istore 6, 2) := by decide +kernel
theorem dX0_giveHats_53 : decode cX0_giveHats 53 = .ok (.iconst 0, 1) := by decide +kernel
theorem dX0_giveHats_54 : decode cX0_giveHats 54 = .ok (.istore 7, 2) := by decide +kernel
theorem dX0_giveHats_56 : decode cX0_giveHats 56 = .ok (.iconst 0, 1) := by decide +kernel
theorem dX0_giveHats_57 : decode cX0_giveHats 57 = .ok (.istore 8, 2) := by decide +kernel
theorem dX0_giveHats_59 : decode cX0_giveHats 59 = .ok (.iload 8, 2) := by decide +kernel
theorem dX0_giveHats_61 : decode cX0_giveHats 61 = .ok (.aload_n 1, 1) := by decide +kernel
theorem dX0_giveHats_62 : decode cX0_giveHats 62 = .ok (.getfield 37, 3) := by decide +kernel
theorem dX0_giveHats_65 : decode cX0_giveHats 65 = .ok (.getfield 84, 3) := by decide +kernel
theorem dX0_giveHats_68 : decode cX0_giveHats 68 = .ok (.if_icmp .ge 67, 3) := by decide +kernel
theorem dX0_giveHats_71 : decode cX0_giveHats 71 = .ok (.aload_n 2, 1) := by decide +kernel
theorem dX0_giveHats_72 : decode cX0_giveHats 72 = .ok (.iload 8, 2) := by decide +kernel
theorem dX0_giveHats_74 : decode cX0_giveHats 74 = .ok (.invokevirtual 87, 3) := by decide +kernel
theorem dX0_giveHats_77 : decode cX0_giveHats 77 = .ok (.ifCond .eq 52, 3) := by decide +kernel
theorem dX0_giveHats_80 : decode cX0_giveHats 80 = .ok (.aload_n 0, 1) := by decide +kernel
theorem dX0_giveHats_81 : decode cX0_giveHats 81 = .ok (.getfield 24, 3) := by decide +kernel
theorem dX0_giveHats_84 : decode cX0_giveHats 84 = .ok (.iload 8, 2) := by decide +kernel
theorem dX0_giveHats_86 : decode cX0_giveHats 86 = .ok (.aload_n 0, 1) := by decide +kernel
theorem dX0_giveHats_87 : decode cX0_giveHats 87 = .ok (.iload 7, 2) := by decide +kernel
theorem dX0_giveHats_89 : decode cX0_giveHats 89 = .ok (.iload 6, 2) := by decide +kernel
theorem dX0_giveHats_91 : decode cX0_giveHats 91 = .ok (.iload 4, 2) := by decide +kernel
theorem dX0_giveHats_93 : decode cX0_giveHats 93 = .ok (.invokevirtual 91, 3) := by decide +kernel
theorem dX0_giveHats_96 : decode cX0_giveHats 96 = .ok (.iastore, 1) := by decide +kernel
theorem dX0_giveHats_97 : decode cX0_giveHats 97 = .ok (.iload 6, 2) := by decide +kernel
theorem dX0_giveHats_99 : decode cX0_giveHats 99 = .ok (.aload_n 0, 1) := by decide +kernel
theorem dX0_giveHats_100 : decode cX0_giveHats 100 = .ok (.getfield 24, 3) := by decide +kernel
theorem dX0_giveHats_103 : decode cX0_giveHats 103 = .ok (.iload 8, 2) := by decide +kernel
theorem dX0_giveHats_105 : decode cX0_giveHats 105 = .ok (.iaload, 1) := by decide +kernel
theorem dX0_giveHats_106 : decode cX0_giveHats 106 = .ok (.iconst (-1), 1) := by decide +kernel
theorem dX0_giveHats_107 : decode cX0_giveHats 107 = .ok (.if_icmp .ne 7, 3) := by decide +kernel
theorem dX0_giveHats_110 : decode cX0_giveHats 110 = .ok (.iconst 0, 1) := by decide +kernel
theorem dX0_giveHats_111 : decode cX0_giveHats 111 = .ok (.goto 12, 3) := by decide +kernel
theorem dX0_giveHats_114 : decode cX0_giveHats 114 = .ok (.iconst 1, 1) := by decide +kernel
theorem dX0_giveHats_115 : decode cX0_giveHats 115 = .ok (.aload_n 0, 1) := by decide +kernel
theorem dX0_giveHats_116 : decode cX0_giveHats 116 = .ok (.getfield 24, 3) := by decide +kernel
theorem dX0_giveHats_119 : decode cX0_giveHats 119 = .ok (.iload 8, 2) := by decide +kernel
theorem dX0_giveHats_121 : decode cX0_giveHats 121 = .ok (.iaload, 1) := by decide +kernel
theorem dX0_giveHats_122 : decode cX0_giveHats 122 = .ok (.ishl, 1) := by decide +kernel
theorem dX0_giveHats_123 : decode cX0_giveHats 123 = .ok (.ior, 1) := by decide +kernel
theorem dX0_giveHats_124 : decode cX0_giveHats 124 = .ok (.istore 6, 2) := by decide +kernel
theorem dX0_giveHats_126 : decode cX0_giveHats 126 = .ok (.iinc 7 1, 3) := by decide +kernel
theorem dX0_giveHats_129 : decode cX0_giveHats 129 = .ok (.iinc 8 1, 3) := by decide +kernel
theorem dX0_giveHats_132 : decode cX0_giveHats 132 = .ok (.goto (-73), 3) := by decide +kernel
theorem dX0_giveHats_135 : decode cX0_giveHats 135 = .ok (.aload_n 0, 1) := by decide +kernel
theorem dX0_giveHats_136 : decode cX0_giveHats 136 = .ok (.getfield 21, 3) := by decide +kernel
theorem dX0_giveHats_139 : decode cX0_giveHats 139 = .ok (.iconst 0, 1) := by decide +kernel
theorem dX0_giveHats_140 : decode cX0_giveHats 140 = .ok (.iaload, 1) := by decide +kernel
theorem dX0_giveHats_141 : decode cX0_giveHats 141 = .ok (.ireturn, 1) := by decide +kernel
theorem dX0_priceHats_0 : decode cX0_priceHats 0 = .ok (.iconst 0, 1) := by decide +kernel
theorem dX0_priceHats_1 : decode cX0_priceHats 1 = .ok (.istore 4, 2) := by decide +kernel
theorem dX0_priceHats_3 : decode cX0_priceHats 3 = .ok (.iconst 0, 1) := by decide +kernel
theorem dX0_priceHats_4 : decode cX0_priceHats 4 = .ok (.istore 5, 2) := by decide +kernel
theorem dX0_priceHats_6 : decode cX0_priceHats 6 = .ok (.iload 5, 2) := by decide +kernel
theorem dX0_priceHats_8 : decode cX0_priceHats 8 = .ok (.aload_n 1, 1) := by decide +kernel
theorem dX0_priceHats_9 : decode cX0_priceHats 9 = .ok (.getfield 37, 3) := by decide +kernel
theorem dX0_priceHats_12 : decode cX0_priceHats 12 = .ok (.getfield 84, 3) := by decide +kernel
theorem dX0_priceHats_15 : decode cX0_priceHats 15 = .ok (.if_icmp .ge 72, 3) := by decide +kernel
theorem dX0_priceHats_18 : decode cX0_priceHats 18 = .ok (.aload_n 2, 1) := by decide +kernel
theorem dX0_priceHats_19 : decode cX0_priceHats 19 = .ok (.iload 5, 2) := by decide +kernel
theorem dX0_priceHats_21 : decode cX0_priceHats 21 = .ok (.invokevirtual 87, 3) := by decide +kernel
theorem dX0_priceHats_24 : decode cX0_priceHats 24 = .ok (.ifCond .ne 6, 3) := by decide +kernel
theorem dX0_priceHats_27 : decode cX0_priceHats 27 = .ok (.goto 54, 3) := by decide +kernel
theorem dX0_priceHats_30 : decode cX0_priceHats 30 = .ok (.iconst 0, 1) := by decide +kernel
theorem dX0_priceHats_31 : decode cX0_priceHats 31 = .ok (.istore 6, 2) := by decide +kernel
theorem dX0_priceHats_33 : decode cX0_priceHats 33 = .ok (.iload 6, 2) := by decide +kernel
theorem dX0_priceHats_35 : decode cX0_priceHats 35 = .ok (.aload_n 1, 1) := by decide +kernel
theorem dX0_priceHats_36 : decode cX0_priceHats 36 = .ok (.getfield 37, 3) := by decide +kernel
theorem dX0_priceHats_39 : decode cX0_priceHats 39 = .ok (.getfield 43, 3) := by decide +kernel
theorem dX0_priceHats_42 : decode cX0_priceHats 42 = .ok (.if_icmp .ge 36, 3) := by decide +kernel
theorem dX0_priceHats_45 : decode cX0_priceHats 45 = .ok (.aload_n 1, 1) := by decide +kernel
theorem dX0_priceHats_46 : decode cX0_priceHats 46 = .ok (.aload_n 2, 1) := by decide +kernel
theorem dX0_priceHats_47 : decode cX0_priceHats 47 = .ok (.iload 5, 2) := by decide +kernel
theorem dX0_priceHats_49 : decode cX0_priceHats 49 = .ok (.iload 6, 2) := by decide +kernel
theorem dX0_priceHats_51 : decode cX0_priceHats 51 = .ok (.iload_n 3, 1) := by decide +kernel
theorem dX0_priceHats_52 : decode cX0_priceHats 52 = .ok (.invokevirtual 54, 3) := by decide +kernel
theorem dX0_priceHats_55 : decode cX0_priceHats 55 = .ok (.aload_n 0, 1) := by decide +kernel
theorem dX0_priceHats_56 : decode cX0_priceHats 56 = .ok (.getfield 18, 3) := by decide +kernel
theorem dX0_priceHats_59 : decode cX0_priceHats 59 = .ok (.iload 4, 2) := by decide +kernel
theorem dX0_priceHats_61 : decode cX0_priceHats 61 = .ok (.bipush 8, 2) := by decide +kernel
theorem dX0_priceHats_63 : decode cX0_priceHats 63 = .ok (.imul, 1) := by decide +kernel
theorem dX0_priceHats_64 : decode cX0_priceHats 64 = .ok (.iload 6, 2) := by decide +kernel
theorem dX0_priceHats_66 : decode cX0_priceHats 66 = .ok (.iadd, 1) := by decide +kernel
theorem dX0_priceHats_67 : decode cX0_priceHats 67 = .ok (.aload_n 1, 1) := by decide +kernel
theorem dX0_priceHats_68 : decode cX0_priceHats 68 = .ok (.invokevirtual 58, 3) := by decide +kernel
theorem dX0_priceHats_71 : decode cX0_priceHats 71 = .ok (.iastore, 1) := by decide +kernel
theorem dX0_priceHats_72 : decode cX0_priceHats 72 = .ok (.iinc 6 1, 3) := by decide +kernel
theorem dX0_priceHats_75 : decode cX0_priceHats 75 = .ok (.goto (-42), 3) := by decide +kernel
theorem dX0_priceHats_78 : decode cX0_priceHats 78 = .ok (.iinc 4 1, 3) := by decide +kernel
theorem dX0_priceHats_81 : decode cX0_priceHats 81 = .ok (.iinc 5 1, 3) := by decide +kernel
theorem dX0_priceHats_84 : decode cX0_priceHats 84 = .ok (.goto (-78), 3) := by decide +kernel
theorem dX0_priceHats_87 : decode cX0_priceHats 87 = .ok (.return_, 1) := by decide +kernel
theorem dX0_findCheapest_0 : decode cX0_findCheapest 0 = .ok (.iconst 1, 1) := by decide +kernel
theorem dX0_findCheapest_1 : decode cX0_findCheapest 1 = .ok (.iload_n 1, 1) := by decide +kernel
theorem dX0_findCheapest_2 : decode cX0_findCheapest 2 = .ok (.ishl, 1) := by decide +kernel
theorem dX0_findCheapest_3 : decode cX0_findCheapest 3 = .ok (.iconst 1, 1) := by decide +kernel
theorem dX0_findCheapest_4 : decode cX0_findCheapest 4 = .ok (.isub, 1) := by decide +kernel
theorem dX0_findCheapest_5 : decode cX0_findCheapest 5 = .ok (.istore_n 3, 1) := by decide +kernel
theorem dX0_findCheapest_6 : decode cX0_findCheapest 6 = .ok (.iload_n 3, 1) := by decide +kernel
theorem dX0_findCheapest_7 : decode cX0_findCheapest 7 = .ok (.ifCond .lt 63, 3) := by decide +kernel
theorem dX0_findCheapest_10 : decode cX0_findCheapest 10 = .ok (.iload_n 3, 1) := by decide +kernel
theorem dX0_findCheapest_11 : decode cX0_findCheapest 11 = .ok (.invokestatic 71, 3) := by decide +kernel
theorem dX0_findCheapest_14 : decode cX0_findCheapest 14 = .ok (.istore 4, 2) := by decide +kernel
theorem dX0_findCheapest_16 : decode cX0_findCheapest 16 = .ok (.aload_n 0, 1) := by decide +kernel
theorem dX0_findCheapest_17 : decode cX0_findCheapest 17 = .ok (.getfield 21, 3) := by decide +kernel
theorem dX0_findCheapest_20 : decode cX0_findCheapest 20 = .ok (.iload_n 3, 1) := by decide +kernel
theorem dX0_findCheapest_21 : decode cX0_findCheapest 21 = .ok (.iconst 0, 1) := by decide +kernel
theorem dX0_findCheapest_22 : decode cX0_findCheapest 22 = .ok (.iastore, 1) := by decide +kernel
theorem dX0_findCheapest_23 : decode cX0_findCheapest 23 = .ok (.iload 4, 2) := by decide +kernel
theorem dX0_findCheapest_25 : decode cX0_findCheapest 25 = .ok (.iload_n 2, 1) := by decide +kernel
theorem dX0_findCheapest_26 : decode cX0_findCheapest 26 = .ok (.if_icmp .ge 38, 3) := by decide +kernel
theorem dX0_findCheapest_29 : decode cX0_findCheapest 29 = .ok (.aload_n 0, 1) := by decide +kernel
theorem dX0_findCheapest_30 : decode cX0_findCheapest 30 = .ok (.iload 4, 2) := by decide +kernel
theorem dX0_findCheapest_32 : decode cX0_findCheapest 32 = .ok (.iload_n 3, 1) := by decide +kernel
theorem dX0_findCheapest_33 : decode cX0_findCheapest 33 = .ok (.iload_n 1, 1) := by decide +kernel
theorem dX0_findCheapest_34 : decode cX0_findCheapest 34 = .ok (.invokevirtual 91, 3) := by decide +kernel
theorem dX0_findCheapest_37 : decode cX0_findCheapest 37 = .ok (.istore 5, 2) := by decide +kernel
theorem dX0_findCheapest_39 : decode cX0_findCheapest 39 = .ok (.aload_n 0, 1) := by decide +kernel
theorem dX0_findCheapest_40 : decode cX0_findCheapest 40 = .ok (.getfield 21, 3) := by decide +kernel
theorem dX0_findCheapest_43 : decode cX0_findCheapest 43 = .ok (.iload_n 3, 1) := by decide +kernel
theorem dX0_findCheapest_44 : decode cX0_findCheapest 44 = .ok (.iload 5, 2) := by decide +kernel
theorem dX0_findCheapest_46 : decode cX0_findCheapest 46 = .ok (.iconst (-1), 1) := by decide +kernel
theorem dX0_findCheapest_47 : decode cX0_findCheapest 47 = .ok (.if_icmp .ne 7, 3) := by decide +kernel
theorem dX0_findCheapest_50 : decode cX0_findCheapest 50 = .ok (.iconst 0, 1) := by decide +kernel
theorem dX0_findCheapest_51 : decode cX0_findCheapest 51 = .ok (.goto 12, 3) := by decide +kernel
theorem dX0_findCheapest_54 : decode cX0_findCheapest 54 = .ok (.aload_n 0, 1) := by decide +kernel
theorem dX0_findCheapest_55 : decode cX0_findCheapest 55 = .ok (.iload 4, 2) := by decide +kernel
theorem dX0_findCheapest_57 : decode cX0_findCheapest 57 = .ok (.iload_n 3, 1) := by decide +kernel
theorem dX0_findCheapest_58 : decode cX0_findCheapest 58 = .ok (.iload 5, 2) := by decide +kernel
theorem dX0_findCheapest_60 : decode cX0_findCheapest 60 = .ok (.invokevirtual 95, 3) := by decide +kernel
theorem dX0_findCheapest_63 : decode cX0_findCheapest 63 = .ok (.iastore, 1) := by decide +kernel
theorem dX0_findCheapest_64 : decode cX0_findCheapest 64 = .ok (.iinc 3 (-1), 3) := by decide +kernel
theorem dX0_findCheapest_67 : decode cX0_findCheapest 67 = .ok (.goto (-61), 3) := by decide +kernel
theorem dX0_findCheapest_70 : decode cX0_findCheapest 70 = .ok (.return_, 1) := by decide +kernel
theorem dX0_priceWith_0 : decode cX0_priceWith 0 = .ok (.aload_n 0, 1) := by decide +kernel
theorem dX0_priceWith_1 : decode cX0_priceWith 1 = .ok (.getfield 18, 3) := by decide +kernel
theorem dX0_priceWith_4 : decode cX0_priceWith 4 = .ok (.iload_n 1, 1) := by decide +kernel
theorem dX0_priceWith_5 : decode cX0_priceWith 5 = .ok (.bipush 8, 2) := by decide +kernel
theorem dX0_priceWith_7 : decode cX0_priceWith 7 = .ok (.imul, 1) := by decide +kernel
theorem dX0_priceWith_8 : decode cX0_priceWith 8 = .ok (.iload_n 3, 1) := by decide +kernel
theorem dX0_priceWith_9 : decode cX0_priceWith 9 = .ok (.iadd, 1) := by decide +kernel
theorem dX0_priceWith_10 : decode cX0_priceWith 10 = .ok (.iaload, 1) := by decide +kernel
theorem dX0_priceWith_11 : decode cX0_priceWith 11 = .ok (.aload_n 0, 1) := by decide +kernel
theorem dX0_priceWith_12 : decode cX0_priceWith 12 = .ok (.getfield 21, 3) := by decide +kernel
theorem dX0_priceWith_15 : decode cX0_priceWith 15 = .ok (.iload_n 2, 1) := by decide +kernel
theorem dX0_priceWith_16 : decode cX0_priceWith 16 = .ok (.iconst 1, 1) := by decide +kernel
theorem dX0_priceWith_17 : decode cX0_priceWith 17 = .ok (.iload_n 3, 1) := by decide +kernel
theorem dX0_priceWith_18 : decode cX0_priceWith 18 = .ok (.ishl, 1) := by decide +kernel
theorem dX0_priceWith_19 : decode cX0_priceWith 19 = .ok (.ior, 1) := by decide +kernel
theorem dX0_priceWith_20 : decode cX0_priceWith 20 = .ok (.iaload, 1) := by decide +kernel
theorem dX0_priceWith_21 : decode cX0_priceWith 21 = .ok (.iadd, 1) := by decide +kernel
theorem dX0_priceWith_22 : decode cX0_priceWith 22 = .ok (.ireturn, 1) := by decide +kernel
theorem dX0_firstCheapest_0 : decode cX0_firstCheapest 0 = .ok (.iconst (-1), 1) := by decide +kernel
theorem dX0_firstCheapest_1 : decode cX0_firstCheapest 1 = .ok (.istore 4, 2) := by decide +kernel
theorem dX0_firstCheapest_3 : decode cX0_firstCheapest 3 = .ok (.ldc 98, 2) := by decide +kernel
theorem dX0_firstCheapest_5 : decode cX0_firstCheapest 5 = .ok (.istore 5, 2) := by decide +kernel
theorem dX0_firstCheapest_7 : decode cX0_firstCheapest 7 = .ok (.iconst 0, 1) := by decide +kernel
theorem dX0_firstCheapest_8 : decode cX0_firstCheapest 8 = .ok (.istore 6, 2) := by decide +kernel
theorem dX0_firstCheapest_10 : decode cX0_firstCheapest 10 = .ok (.iload 6, 2) := by decide +kernel
theorem dX0_firstCheapest_12 : decode cX0_firstCheapest 12 = .ok (.iload_n 3, 1) := by decide +kernel
theorem dX0_firstCheapest_13 : decode cX0_firstCheapest 13 = .ok (.if_icmp .ge 45, 3) := by decide +kernel
theorem dX0_firstCheapest_16 : decode cX0_firstCheapest 16 = .ok (.iload_n 2, 1) := by decide +kernel
theorem dX0_firstCheapest_17 : decode cX0_firstCheapest 17 = .ok (.iload 6, 2) := by decide +kernel
theorem dX0_firstCheapest_19 : decode cX0_firstCheapest 19 = .ok (.ishr, 1) := by decide +kernel
theorem dX0_firstCheapest_20 : decode cX0_firstCheapest 20 = .ok (.iconst 1, 1) := by decide +kernel
theorem dX0_firstCheapest_21 : decode cX0_firstCheapest 21 = .ok (.iand, 1) := by decide +kernel
theorem dX0_firstCheapest_22 : decode cX0_firstCheapest 22 = .ok (.ifCond .ne 30, 3) := by decide +kernel
theorem dX0_firstCheapest_25 : decode cX0_firstCheapest 25 = .ok (.aload_n 0, 1) := by decide +kernel
theorem dX0_firstCheapest_26 : decode cX0_firstCheapest 26 = .ok (.iload_n 1, 1) := by decide +kernel
theorem dX0_firstCheapest_27 : decode cX0_firstCheapest 27 = .ok (.iload_n 2, 1) := by decide +kernel
theorem dX0_firstCheapest_28 : decode cX0_firstCheapest 28 = .ok (.iload 6, 2) := by decide +kernel
theorem dX0_firstCheapest_30 : decode cX0_firstCheapest 30 = .ok (.invokevirtual 95, 3) := by decide +kernel
theorem dX0_firstCheapest_33 : decode cX0_firstCheapest 33 = .ok (.iload 5, 2) := by decide +kernel
theorem dX0_firstCheapest_35 : decode cX0_firstCheapest 35 = .ok (.if_icmp .ge 17, 3) := by decide +kernel
theorem dX0_firstCheapest_38 : decode cX0_firstCheapest 38 = .ok (.aload_n 0, 1) := by decide +kernel
theorem dX0_firstCheapest_39 : decode cX0_firstCheapest 39 = .ok (.iload_n 1, 1) := by decide +kernel
theorem dX0_firstCheapest_40 : decode cX0_firstCheapest 40 = .ok (.iload_n 2, 1) := by decide +kernel
theorem dX0_firstCheapest_41 : decode cX0_firstCheapest 41 = .ok (.iload 6, 2) := by decide +kernel
theorem dX0_firstCheapest_43 : decode cX0_firstCheapest 43 = .ok (.invokevirtual 95, 3) := by decide +kernel
theorem dX0_firstCheapest_46 : decode cX0_firstCheapest 46 = .ok (.istore 5, 2) := by decide +kernel
theorem dX0_firstCheapest_48 : decode cX0_firstCheapest 48 = .ok (.iload 6, 2) := by decide +kernel
theorem dX0_firstCheapest_50 : decode cX0_firstCheapest 50 = .ok (.istore 4, 2) := by decide +kernel
theorem dX0_firstCheapest_52 : decode cX0_firstCheapest 52 = .ok (.iinc 6 1, 3) := by decide +kernel
theorem dX0_firstCheapest_55 : decode cX0_firstCheapest 55 = .ok (.goto (-45), 3) := by decide +kernel
theorem dX0_firstCheapest_58 : decode cX0_firstCheapest 58 = .ok (.iload 4, 2) := by decide +kernel
theorem dX0_firstCheapest_60 : decode cX0_firstCheapest 60 = .ok (.ireturn, 1) := by decide +kernel
theorem dX0_findPairs_0 : decode cX0_findPairs 0 = .ok (.aload_n 0, 1) := by decide +kernel
theorem dX0_findPairs_1 : decode cX0_findPairs 1 = .ok (.iconst 0, 1) := by decide +kernel
theorem dX0_findPairs_2 : decode cX0_findPairs 2 = .ok (.putfield 99, 3) := by decide +kernel
theorem dX0_findPairs_5 : decode cX0_findPairs 5 = .ok (.aload_n 0, 1) := by decide +kernel
theorem dX0_findPairs_6 : decode cX0_findPairs 6 = .ok (.iconst (-1), 1) := by decide +kernel
theorem dX0_findPairs_7 : decode cX0_findPairs 7 = .ok (.putfield 102, 3) := by decide +kernel
theorem dX0_findPairs_10 : decode cX0_findPairs 10 = .ok (.iconst 0, 1) := by decide +kernel
theorem dX0_findPairs_11 : decode cX0_findPairs 11 = .ok (.istore 6, 2) := by decide +kernel
theorem dX0_findPairs_13 : decode cX0_findPairs 13 = .ok (.iload 6, 2) := by decide +kernel
theorem dX0_findPairs_15 : decode cX0_findPairs 15 = .ok (.aload_n 1, 1) := by decide +kernel
theorem dX0_findPairs_16 : decode cX0_findPairs 16 = .ok (.getfield 37, 3) := by decide +kernel
theorem dX0_findPairs_19 : decode cX0_findPairs 19 = .ok (.getfield 43, 3) := by decide +kernel
theorem dX0_findPairs_22 : decode cX0_findPairs 22 = .ok (.if_icmp .ge 130, 3) := by decide +kernel
theorem dX0_findPairs_25 : decode cX0_findPairs 25 = .ok (.iconst 0, 1) := by decide +kernel
theorem dX0_findPairs_26 : decode cX0_findPairs 26 = .ok (.istore 7, 2) := by decide +kernel
theorem dX0_findPairs_28 : decode cX0_findPairs 28 = .ok (.iload 7, 2) := by decide +kernel
theorem dX0_findPairs_30 : decode cX0_findPairs 30 = .ok (.aload_n 1, 1) := by decide +kernel
theorem dX0_findPairs_31 : decode cX0_findPairs 31 = .ok (.getfield 37, 3) := by decide +kernel
theorem dX0_findPairs_34 : decode cX0_findPairs 34 = .ok (.getfield 105, 3) := by decide +kernel
theorem dX0_findPairs_37 : decode cX0_findPairs 37 = .ok (.if_icmp .ge 109, 3) := by decide +kernel
theorem dX0_findPairs_40 : decode cX0_findPairs 40 = .ok (.aload_n 1, 1) := by decide +kernel
theorem dX0_findPairs_41 : decode cX0_findPairs 41 = .ok (.aload_n 2, 1) := by decide +kernel
theorem dX0_findPairs_42 : decode cX0_findPairs 42 = .ok (.iload 4, 2) := by decide +kernel
theorem dX0_findPairs_44 : decode cX0_findPairs 44 = .ok (.iload 6, 2) := by decide +kernel
theorem dX0_findPairs_46 : decode cX0_findPairs 46 = .ok (.iload 7, 2) := by decide +kernel
theorem dX0_findPairs_48 : decode cX0_findPairs 48 = .ok (.invokevirtual 54, 3) := by decide +kernel
theorem dX0_findPairs_51 : decode cX0_findPairs 51 = .ok (.iconst 0, 1) := by decide +kernel
theorem dX0_findPairs_52 : decode cX0_findPairs 52 = .ok (.istore 8, 2) := by decide +kernel
theorem dX0_findPairs_54 : decode cX0_findPairs 54 = .ok (.iload 8, 2) := by decide +kernel
theorem dX0_findPairs_56 : decode cX0_findPairs 56 = .ok (.iload 5, 2) := by decide +kernel
theorem dX0_findPairs_58 : decode cX0_findPairs 58 = .ok (.if_icmp .ge 28, 3) := by decide +kernel
theorem dX0_findPairs_61 : decode cX0_findPairs 61 = .ok (.aload_n 0, 1) := by decide +kernel
theorem dX0_findPairs_62 : decode cX0_findPairs 62 = .ok (.getfield 11, 3) := by decide +kernel
theorem dX0_findPairs_65 : decode cX0_findPairs 65 = .ok (.aload_n 0, 1) := by decide +kernel
theorem dX0_findPairs_66 : decode cX0_findPairs 66 = .ok (.getfield 99, 3) := by decide +kernel
theorem dX0_findPairs_69 : decode cX0_findPairs 69 = .ok (.bipush 24, 2) := by decide +kernel
theorem dX0_findPairs_71 : decode cX0_findPairs 71 = .ok (.imul, 1) := by decide +kernel
theorem dX0_findPairs_72 : decode cX0_findPairs 72 = .ok (.iload 8, 2) := by decide +kernel
theorem dX0_findPairs_74 : decode cX0_findPairs 74 = .ok (.iadd, 1) := by decide +kernel
theorem dX0_findPairs_75 : decode cX0_findPairs 75 = .ok (.aload_n 1, 1) := by decide +kernel
theorem dX0_findPairs_76 : decode cX0_findPairs 76 = .ok (.invokevirtual 58, 3) := by decide +kernel
theorem dX0_findPairs_79 : decode cX0_findPairs 79 = .ok (.iastore, 1) := by decide +kernel
theorem dX0_findPairs_80 : decode cX0_findPairs 80 = .ok (.iinc 8 1, 3) := by decide +kernel
theorem dX0_findPairs_83 : decode cX0_findPairs 83 = .ok (.goto (-29), 3) := by decide +kernel
theorem dX0_findPairs_86 : decode cX0_findPairs 86 = .ok (.aload_n 3, 1) := by decide +kernel
theorem dX0_findPairs_87 : decode cX0_findPairs 87 = .ok (.aload_n 0, 1) := by decide +kernel
theorem dX0_findPairs_88 : decode cX0_findPairs 88 = .ok (.getfield 11, 3) := by decide +kernel
theorem dX0_findPairs_91 : decode cX0_findPairs 91 = .ok (.aload_n 0, 1) := by decide +kernel
theorem dX0_findPairs_92 : decode cX0_findPairs 92 = .ok (.getfield 99, 3) := by decide +kernel
theorem dX0_findPairs_95 : decode cX0_findPairs 95 = .ok (.bipush 24, 2) := by decide +kernel
theorem dX0_findPairs_97 : decode cX0_findPairs 97 = .ok (.imul, 1) := by decide +kernel
theorem dX0_findPairs_98 : decode cX0_findPairs 98 = .ok (.invokevirtual 108, 3) := by decide +kernel
theorem dX0_findPairs_101 : decode cX0_findPairs 101 = .ok (.ifCond .eq 39, 3) := by decide +kernel
theorem dX0_findPairs_104 : decode cX0_findPairs 104 = .ok (.aload_n 0, 1) := by decide +kernel
theorem dX0_findPairs_105 : decode cX0_findPairs 105 = .ok (.aload_n 0, 1) := by decide +kernel
theorem dX0_findPairs_106 : decode cX0_findPairs 106 = .ok (.getfield 99, 3) := by decide +kernel
theorem dX0_findPairs_109 : decode cX0_findPairs 109 = .ok (.ifCond .ne 14, 3) := by decide +kernel
theorem dX0_findPairs_112 : decode cX0_findPairs 112 = .ok (.bipush 10, 2) := by decide +kernel
theorem dX0_findPairs_114 : decode cX0_findPairs 114 = .ok (.iload 6, 2) := by decide +kernel
theorem dX0_findPairs_116 : decode cX0_findPairs 116 = .ok (.imul, 1) := by decide +kernel
theorem dX0_findPairs_117 : decode cX0_findPairs 117 = .ok (.iload 7, 2) := by decide +kernel
theorem dX0_findPairs_119 : decode cX0_findPairs 119 = .ok (.iadd, 1) := by decide +kernel
theorem dX0_findPairs_120 : decode cX0_findPairs 120 = .ok (.goto 7, 3) := by decide +kernel
theorem dX0_findPairs_123 : decode cX0_findPairs 123 = .ok (.aload_n 0, 1) := by decide +kernel
theorem dX0_findPairs_124 : decode cX0_findPairs 124 = .ok (.getfield 102, 3) := by decide +kernel
theorem dX0_findPairs_127 : decode cX0_findPairs 127 = .ok (.putfield 102, 3) := by decide +kernel
theorem dX0_findPairs_130 : decode cX0_findPairs 130 = .ok (.aload_n 0, 1) := by decide +kernel
theorem dX0_findPairs_131 : decode cX0_findPairs 131 = .ok (.dup, 1) := by decide +kernel
theorem dX0_findPairs_132 : decode cX0_findPairs 132 = .ok (.getfield 99, 3) := by decide +kernel
theorem dX0_findPairs_135 : decode cX0_findPairs 135 = .ok (.iconst 1, 1) := by decide +kernel
theorem dX0_findPairs_136 : decode cX0_findPairs 136 = .ok (.iadd, 1) := by decide +kernel
theorem dX0_findPairs_137 : decode cX0_findPairs 137 = .ok (.putfield 99, 3) := by decide +kernel
theorem dX0_findPairs_140 : decode cX0_findPairs 140 = .ok (.iinc 7 1, 3) := by decide +kernel
theorem dX0_findPairs_143 : decode cX0_findPairs 143 = .ok (.goto (-115), 3) := by decide +kernel
theorem dX0_findPairs_146 : decode cX0_findPairs 146 = .ok (.iinc 6 1, 3) := by decide +kernel
theorem dX0_findPairs_149 : decode cX0_findPairs 149 = .ok (.goto (-136), 3) := by decide +kernel
theorem dX0_findPairs_152 : decode cX0_findPairs 152 = .ok (.return_, 1) := by decide +kernel
theorem dX0_chooseHour_0 : decode cX0_chooseHour 0 = .ok (.aload_n 0, 1) := by decide +kernel
theorem dX0_chooseHour_1 : decode cX0_chooseHour 1 = .ok (.iconst (-1), 1) := by decide +kernel
theorem dX0_chooseHour_2 : decode cX0_chooseHour 2 = .ok (.putfield 30, 3) := by decide +kernel
theorem dX0_chooseHour_5 : decode cX0_chooseHour 5 = .ok (.aload_n 0, 1) := by decide +kernel
theorem dX0_chooseHour_6 : decode cX0_chooseHour 6 = .ok (.iconst (-1), 1) := by decide +kernel
theorem dX0_chooseHour_7 : decode cX0_chooseHour 7 = .ok (.putfield 114, 3) := by decide +kernel
theorem dX0_chooseHour_10 : decode cX0_chooseHour 10 = .ok (.iconst 0, 1) := by decide +kernel
theorem dX0_chooseHour_11 : decode cX0_chooseHour 11 = .ok (.istore_n 2, 1) := by decide +kernel
theorem dX0_chooseHour_12 : decode cX0_chooseHour 12 = .ok (.iload_n 2, 1) := by decide +kernel
theorem dX0_chooseHour_13 : decode cX0_chooseHour 13 = .ok (.bipush 24, 2) := by decide +kernel
theorem dX0_chooseHour_15 : decode cX0_chooseHour 15 = .ok (.if_icmp .ge 52, 3) := by decide +kernel
theorem dX0_chooseHour_18 : decode cX0_chooseHour 18 = .ok (.aload_n 1, 1) := by decide +kernel
theorem dX0_chooseHour_19 : decode cX0_chooseHour 19 = .ok (.iload_n 2, 1) := by decide +kernel
theorem dX0_chooseHour_20 : decode cX0_chooseHour 20 = .ok (.invokevirtual 117, 3) := by decide +kernel
theorem dX0_chooseHour_23 : decode cX0_chooseHour 23 = .ok (.ifCond .eq 6, 3) := by decide +kernel
theorem dX0_chooseHour_26 : decode cX0_chooseHour 26 = .ok (.goto 35, 3) := by decide +kernel
theorem dX0_chooseHour_29 : decode cX0_chooseHour 29 = .ok (.aload_n 0, 1) := by decide +kernel
theorem dX0_chooseHour_30 : decode cX0_chooseHour 30 = .ok (.iload_n 2, 1) := by decide +kernel
theorem dX0_chooseHour_31 : decode cX0_chooseHour 31 = .ok (.invokevirtual 120, 3) := by decide +kernel
theorem dX0_chooseHour_34 : decode cX0_chooseHour 34 = .ok (.istore_n 3, 1) := by decide +kernel
theorem dX0_chooseHour_35 : decode cX0_chooseHour 35 = .ok (.aload_n 0, 1) := by decide +kernel
theorem dX0_chooseHour_36 : decode cX0_chooseHour 36 = .ok (.getfield 30, 3) := by decide +kernel
theorem dX0_chooseHour_39 : decode cX0_chooseHour 39 = .ok (.iconst (-1), 1) := by decide +kernel
