theorem dX10_hat_17 : decode cX10_hat 17 = .ok (.iconst 0, 1) := by decide +kernel
theorem dX10_hat_18 : decode cX10_hat 18 = .ok (.iconst 3, 1) := by decide +kernel
theorem dX10_hat_19 : decode cX10_hat 19 = .ok (.invokevirtual 158, 3) := by decide +kernel
theorem dX10_hat_22 : decode cX10_hat 22 = .ok (.iload_n 2, 1) := by decide +kernel
theorem dX10_hat_23 : decode cX10_hat 23 = .ok (.tableswitch 60 0 2 #[25, 38, 51], 25) := by decide +kernel
theorem dX10_hat_48 : decode cX10_hat 48 = .ok (.aload_n 0, 1) := by decide +kernel
theorem dX10_hat_49 : decode cX10_hat 49 = .ok (.getfield 19, 3) := by decide +kernel
theorem dX10_hat_52 : decode cX10_hat 52 = .ok (.getfield 85, 3) := by decide +kernel
theorem dX10_hat_55 : decode cX10_hat 55 = .ok (.getfield 190, 3) := by decide +kernel
theorem dX10_hat_58 : decode cX10_hat 58 = .ok (.iload_n 1, 1) := by decide +kernel
theorem dX10_hat_59 : decode cX10_hat 59 = .ok (.iaload, 1) := by decide +kernel
theorem dX10_hat_60 : decode cX10_hat 60 = .ok (.ireturn, 1) := by decide +kernel
theorem dX10_hat_61 : decode cX10_hat 61 = .ok (.aload_n 0, 1) := by decide +kernel
theorem dX10_hat_62 : decode cX10_hat 62 = .ok (.getfield 19, 3) := by decide +kernel
theorem dX10_hat_65 : decode cX10_hat 65 = .ok (.getfield 85, 3) := by decide +kernel
theorem dX10_hat_68 : decode cX10_hat 68 = .ok (.getfield 194, 3) := by decide +kernel
theorem dX10_hat_71 : decode cX10_hat 71 = .ok (.iload_n 1, 1) := by decide +kernel
theorem dX10_hat_72 : decode cX10_hat 72 = .ok (.iaload, 1) := by decide +kernel
theorem dX10_hat_73 : decode cX10_hat 73 = .ok (.ireturn, 1) := by decide +kernel
theorem dX10_hat_74 : decode cX10_hat 74 = .ok (.aload_n 0, 1) := by decide +kernel
theorem dX10_hat_75 : decode cX10_hat 75 = .ok (.getfield 26, 3) := by decide +kernel
theorem dX10_hat_78 : decode cX10_hat 78 = .ok (.iload_n 1, 1) := by decide +kernel
theorem dX10_hat_79 : decode cX10_hat 79 = .ok (.invokevirtual 197, 3) := by decide +kernel
theorem dX10_hat_82 : decode cX10_hat 82 = .ok (.ireturn, 1) := by decide +kernel
theorem dX10_hat_83 : decode cX10_hat 83 = .ok (.aload_n 0, 1) := by decide +kernel
theorem dX10_hat_84 : decode cX10_hat 84 = .ok (.getfield 26, 3) := by decide +kernel
theorem dX10_hat_87 : decode cX10_hat 87 = .ok (.getfield 201, 3) := by decide +kernel
theorem dX10_hat_90 : decode cX10_hat 90 = .ok (.iload_n 1, 1) := by decide +kernel
theorem dX10_hat_91 : decode cX10_hat 91 = .ok (.iaload, 1) := by decide +kernel
theorem dX10_hat_92 : decode cX10_hat 92 = .ok (.ireturn, 1) := by decide +kernel
theorem dX10_ground_0 : decode cX10_ground 0 = .ok (.aload_n 0, 1) := by decide +kernel
theorem dX10_ground_1 : decode cX10_ground 1 = .ok (.iload_n 1, 1) := by decide +kernel
theorem dX10_ground_2 : decode cX10_ground 2 = .ok (.aload_n 0, 1) := by decide +kernel
theorem dX10_ground_3 : decode cX10_ground 3 = .ok (.getfield 19, 3) := by decide +kernel
theorem dX10_ground_6 : decode cX10_ground 6 = .ok (.getfield 85, 3) := by decide +kernel
theorem dX10_ground_9 : decode cX10_ground 9 = .ok (.getfield 165, 3) := by decide +kernel
theorem dX10_ground_12 : decode cX10_ground 12 = .ok (.invokevirtual 187, 3) := by decide +kernel
theorem dX10_ground_15 : decode cX10_ground 15 = .ok (.aload_n 0, 1) := by decide +kernel
theorem dX10_ground_16 : decode cX10_ground 16 = .ok (.iload_n 2, 1) := by decide +kernel
theorem dX10_ground_17 : decode cX10_ground 17 = .ok (.iconst 0, 1) := by decide +kernel
theorem dX10_ground_18 : decode cX10_ground 18 = .ok (.iconst 3, 1) := by decide +kernel
theorem dX10_ground_19 : decode cX10_ground 19 = .ok (.invokevirtual 158, 3) := by decide +kernel
theorem dX10_ground_22 : decode cX10_ground 22 = .ok (.iload_n 2, 1) := by decide +kernel
theorem dX10_ground_23 : decode cX10_ground 23 = .ok (.tableswitch 57 0 2 #[25, 35, 48], 25) := by decide +kernel
theorem dX10_ground_48 : decode cX10_ground 48 = .ok (.aload_n 0, 1) := by decide +kernel
theorem dX10_ground_49 : decode cX10_ground 49 = .ok (.getfield 26, 3) := by decide +kernel
theorem dX10_ground_52 : decode cX10_ground 52 = .ok (.getfield 204, 3) := by decide +kernel
theorem dX10_ground_55 : decode cX10_ground 55 = .ok (.iload_n 1, 1) := by decide +kernel
theorem dX10_ground_56 : decode cX10_ground 56 = .ok (.iaload, 1) := by decide +kernel
theorem dX10_ground_57 : decode cX10_ground 57 = .ok (.ireturn, 1) := by decide +kernel
theorem dX10_ground_58 : decode cX10_ground 58 = .ok (.aload_n 0, 1) := by decide +kernel
theorem dX10_ground_59 : decode cX10_ground 59 = .ok (.getfield 19, 3) := by decide +kernel
theorem dX10_ground_62 : decode cX10_ground 62 = .ok (.getfield 85, 3) := by decide +kernel
theorem dX10_ground_65 : decode cX10_ground 65 = .ok (.getfield 207, 3) := by decide +kernel
theorem dX10_ground_68 : decode cX10_ground 68 = .ok (.iload_n 1, 1) := by decide +kernel
theorem dX10_ground_69 : decode cX10_ground 69 = .ok (.iaload, 1) := by decide +kernel
theorem dX10_ground_70 : decode cX10_ground 70 = .ok (.ireturn, 1) := by decide +kernel
theorem dX10_ground_71 : decode cX10_ground 71 = .ok (.aload_n 0, 1) := by decide +kernel
theorem dX10_ground_72 : decode cX10_ground 72 = .ok (.getfield 26, 3) := by decide +kernel
theorem dX10_ground_75 : decode cX10_ground 75 = .ok (.iload_n 1, 1) := by decide +kernel
theorem dX10_ground_76 : decode cX10_ground 76 = .ok (.invokevirtual 210, 3) := by decide +kernel
theorem dX10_ground_79 : decode cX10_ground 79 = .ok (.ireturn, 1) := by decide +kernel
theorem dX10_ground_80 : decode cX10_ground 80 = .ok (.aload_n 0, 1) := by decide +kernel
theorem dX10_ground_81 : decode cX10_ground 81 = .ok (.getfield 19, 3) := by decide +kernel
theorem dX10_ground_84 : decode cX10_ground 84 = .ok (.getfield 85, 3) := by decide +kernel
theorem dX10_ground_87 : decode cX10_ground 87 = .ok (.getfield 213, 3) := by decide +kernel
theorem dX10_ground_90 : decode cX10_ground 90 = .ok (.iload_n 1, 1) := by decide +kernel
theorem dX10_ground_91 : decode cX10_ground 91 = .ok (.iaload, 1) := by decide +kernel
theorem dX10_ground_92 : decode cX10_ground 92 = .ok (.ireturn, 1) := by decide +kernel
theorem dX10_man_0 : decode cX10_man 0 = .ok (.aload_n 0, 1) := by decide +kernel
theorem dX10_man_1 : decode cX10_man 1 = .ok (.iload_n 1, 1) := by decide +kernel
theorem dX10_man_2 : decode cX10_man 2 = .ok (.aload_n 0, 1) := by decide +kernel
theorem dX10_man_3 : decode cX10_man 3 = .ok (.getfield 19, 3) := by decide +kernel
theorem dX10_man_6 : decode cX10_man 6 = .ok (.getfield 85, 3) := by decide +kernel
theorem dX10_man_9 : decode cX10_man 9 = .ok (.getfield 127, 3) := by decide +kernel
theorem dX10_man_12 : decode cX10_man 12 = .ok (.invokevirtual 187, 3) := by decide +kernel
theorem dX10_man_15 : decode cX10_man 15 = .ok (.aload_n 0, 1) := by decide +kernel
theorem dX10_man_16 : decode cX10_man 16 = .ok (.iload_n 2, 1) := by decide +kernel
theorem dX10_man_17 : decode cX10_man 17 = .ok (.iconst 0, 1) := by decide +kernel
theorem dX10_man_18 : decode cX10_man 18 = .ok (.bipush 7, 2) := by decide +kernel
theorem dX10_man_20 : decode cX10_man 20 = .ok (.invokevirtual 158, 3) := by decide +kernel
theorem dX10_man_23 : decode cX10_man 23 = .ok (.iload_n 2, 1) := by decide +kernel
theorem dX10_man_24 : decode cX10_man 24 = .ok (.tableswitch 120 0 6 #[44, 57, 67, 77, 87, 97, 107], 44) := by decide +kernel
theorem dX10_man_68 : decode cX10_man 68 = .ok (.aload_n 0, 1) := by decide +kernel
theorem dX10_man_69 : decode cX10_man 69 = .ok (.getfield 19, 3) := by decide +kernel
theorem dX10_man_72 : decode cX10_man 72 = .ok (.getfield 85, 3) := by decide +kernel
theorem dX10_man_75 : decode cX10_man 75 = .ok (.getfield 216, 3) := by decide +kernel
theorem dX10_man_78 : decode cX10_man 78 = .ok (.iload_n 1, 1) := by decide +kernel
theorem dX10_man_79 : decode cX10_man 79 = .ok (.iaload, 1) := by decide +kernel
theorem dX10_man_80 : decode cX10_man 80 = .ok (.ireturn, 1) := by decide +kernel
theorem dX10_man_81 : decode cX10_man 81 = .ok (.aload_n 0, 1) := by decide +kernel
theorem dX10_man_82 : decode cX10_man 82 = .ok (.getfield 26, 3) := by decide +kernel
theorem dX10_man_85 : decode cX10_man 85 = .ok (.getfield 219, 3) := by decide +kernel
theorem dX10_man_88 : decode cX10_man 88 = .ok (.iload_n 1, 1) := by decide +kernel
theorem dX10_man_89 : decode cX10_man 89 = .ok (.iaload, 1) := by decide +kernel
theorem dX10_man_90 : decode cX10_man 90 = .ok (.ireturn, 1) := by decide +kernel
theorem dX10_man_91 : decode cX10_man 91 = .ok (.aload_n 0, 1) := by decide +kernel
theorem dX10_man_92 : decode cX10_man 92 = .ok (.getfield 26, 3) := by decide +kernel
theorem dX10_man_95 : decode cX10_man 95 = .ok (.getfield 222, 3) := by decide +kernel
theorem dX10_man_98 : decode cX10_man 98 = .ok (.iload_n 1, 1) := by decide +kernel
theorem dX10_man_99 : decode cX10_man 99 = .ok (.iaload, 1) := by decide +kernel
theorem dX10_man_100 : decode cX10_man 100 = .ok (.ireturn, 1) := by decide +kernel
theorem dX10_man_101 : decode cX10_man 101 = .ok (.aload_n 0, 1) := by decide +kernel
theorem dX10_man_102 : decode cX10_man 102 = .ok (.getfield 26, 3) := by decide +kernel
theorem dX10_man_105 : decode cX10_man 105 = .ok (.getfield 225, 3) := by decide +kernel
theorem dX10_man_108 : decode cX10_man 108 = .ok (.iload_n 1, 1) := by decide +kernel
theorem dX10_man_109 : decode cX10_man 109 = .ok (.iaload, 1) := by decide +kernel
theorem dX10_man_110 : decode cX10_man 110 = .ok (.ireturn, 1) := by decide +kernel
theorem dX10_man_111 : decode cX10_man 111 = .ok (.aload_n 0, 1) := by decide +kernel
theorem dX10_man_112 : decode cX10_man 112 = .ok (.getfield 26, 3) := by decide +kernel
theorem dX10_man_115 : decode cX10_man 115 = .ok (.getfield 228, 3) := by decide +kernel
theorem dX10_man_118 : decode cX10_man 118 = .ok (.iload_n 1, 1) := by decide +kernel
theorem dX10_man_119 : decode cX10_man 119 = .ok (.iaload, 1) := by decide +kernel
theorem dX10_man_120 : decode cX10_man 120 = .ok (.ireturn, 1) := by decide +kernel
theorem dX10_man_121 : decode cX10_man 121 = .ok (.aload_n 0, 1) := by decide +kernel
theorem dX10_man_122 : decode cX10_man 122 = .ok (.getfield 26, 3) := by decide +kernel
theorem dX10_man_125 : decode cX10_man 125 = .ok (.getfield 231, 3) := by decide +kernel
theorem dX10_man_128 : decode cX10_man 128 = .ok (.iload_n 1, 1) := by decide +kernel
theorem dX10_man_129 : decode cX10_man 129 = .ok (.iaload, 1) := by decide +kernel
theorem dX10_man_130 : decode cX10_man 130 = .ok (.ireturn, 1) := by decide +kernel
theorem dX10_man_131 : decode cX10_man 131 = .ok (.aload_n 0, 1) := by decide +kernel
theorem dX10_man_132 : decode cX10_man 132 = .ok (.getfield 19, 3) := by decide +kernel
theorem dX10_man_135 : decode cX10_man 135 = .ok (.getfield 85, 3) := by decide +kernel
theorem dX10_man_138 : decode cX10_man 138 = .ok (.getfield 234, 3) := by decide +kernel
theorem dX10_man_141 : decode cX10_man 141 = .ok (.iload_n 1, 1) := by decide +kernel
theorem dX10_man_142 : decode cX10_man 142 = .ok (.iaload, 1) := by decide +kernel
theorem dX10_man_143 : decode cX10_man 143 = .ok (.ireturn, 1) := by decide +kernel
theorem dX10_man_144 : decode cX10_man 144 = .ok (.aload_n 0, 1) := by decide +kernel
theorem dX10_man_145 : decode cX10_man 145 = .ok (.getfield 26, 3) := by decide +kernel
theorem dX10_man_148 : decode cX10_man 148 = .ok (.iload_n 1, 1) := by decide +kernel
theorem dX10_man_149 : decode cX10_man 149 = .ok (.invokevirtual 237, 3) := by decide +kernel
theorem dX10_man_152 : decode cX10_man 152 = .ok (.ifCond .eq 7, 3) := by decide +kernel
theorem dX10_man_155 : decode cX10_man 155 = .ok (.iconst 1, 1) := by decide +kernel
theorem dX10_man_156 : decode cX10_man 156 = .ok (.goto 4, 3) := by decide +kernel
theorem dX10_man_159 : decode cX10_man 159 = .ok (.iconst 0, 1) := by decide +kernel
theorem dX10_man_160 : decode cX10_man 160 = .ok (.ireturn, 1) := by decide +kernel
theorem dX10_sea_0 : decode cX10_sea 0 = .ok (.aload_n 0, 1) := by decide +kernel
theorem dX10_sea_1 : decode cX10_sea 1 = .ok (.iload_n 1, 1) := by decide +kernel
theorem dX10_sea_2 : decode cX10_sea 2 = .ok (.aload_n 0, 1) := by decide +kernel
theorem dX10_sea_3 : decode cX10_sea 3 = .ok (.getfield 19, 3) := by decide +kernel
theorem dX10_sea_6 : decode cX10_sea 6 = .ok (.getfield 85, 3) := by decide +kernel
theorem dX10_sea_9 : decode cX10_sea 9 = .ok (.getfield 127, 3) := by decide +kernel
theorem dX10_sea_12 : decode cX10_sea 12 = .ok (.invokevirtual 187, 3) := by decide +kernel
theorem dX10_sea_15 : decode cX10_sea 15 = .ok (.aload_n 0, 1) := by decide +kernel
theorem dX10_sea_16 : decode cX10_sea 16 = .ok (.getfield 19, 3) := by decide +kernel
theorem dX10_sea_19 : decode cX10_sea 19 = .ok (.aload_n 0, 1) := by decide +kernel
theorem dX10_sea_20 : decode cX10_sea 20 = .ok (.getfield 26, 3) := by decide +kernel
theorem dX10_sea_23 : decode cX10_sea 23 = .ok (.iload_n 1, 1) := by decide +kernel
theorem dX10_sea_24 : decode cX10_sea 24 = .ok (.invokevirtual 241, 3) := by decide +kernel
theorem dX10_sea_27 : decode cX10_sea 27 = .ok (.ireturn, 1) := by decide +kernel
theorem dX10_would_0 : decode cX10_would 0 = .ok (.aload_n 0, 1) := by decide +kernel
theorem dX10_would_1 : decode cX10_would 1 = .ok (.iload_n 1, 1) := by decide +kernel
theorem dX10_would_2 : decode cX10_would 2 = .ok (.iconst 1, 1) := by decide +kernel
theorem dX10_would_3 : decode cX10_would 3 = .ok (.bipush 21, 2) := by decide +kernel
theorem dX10_would_5 : decode cX10_would 5 = .ok (.invokevirtual 158, 3) := by decide +kernel
theorem dX10_would_8 : decode cX10_would 8 = .ok (.aload_n 0, 1) := by decide +kernel
theorem dX10_would_9 : decode cX10_would 9 = .ok (.iload_n 2, 1) := by decide +kernel
theorem dX10_would_10 : decode cX10_would 10 = .ok (.iconst 0, 1) := by decide +kernel
theorem dX10_would_11 : decode cX10_would 11 = .ok (.iconst 4, 1) := by decide +kernel
theorem dX10_would_12 : decode cX10_would 12 = .ok (.invokevirtual 158, 3) := by decide +kernel
theorem dX10_would_15 : decode cX10_would 15 = .ok (.aload_n 0, 1) := by decide +kernel
theorem dX10_would_16 : decode cX10_would 16 = .ok (.iload_n 3, 1) := by decide +kernel
theorem dX10_would_17 : decode cX10_would 17 = .ok (.iconst 0, 1) := by decide +kernel
theorem dX10_would_18 : decode cX10_would 18 = .ok (.sipush 999, 3) := by decide +kernel
theorem dX10_would_21 : decode cX10_would 21 = .ok (.invokevirtual 158, 3) := by decide +kernel
theorem dX10_would_24 : decode cX10_would 24 = .ok (.aload_n 0, 1) := by decide +kernel
theorem dX10_would_25 : decode cX10_would 25 = .ok (.iload 4, 2) := by decide +kernel
theorem dX10_would_27 : decode cX10_would 27 = .ok (.iconst 1, 1) := by decide +kernel
theorem dX10_would_28 : decode cX10_would 28 = .ok (.bipush 99, 2) := by decide +kernel
theorem dX10_would_30 : decode cX10_would 30 = .ok (.invokevirtual 158, 3) := by decide +kernel
theorem dX10_would_33 : decode cX10_would 33 = .ok (.aload_n 0, 1) := by decide +kernel
theorem dX10_would_34 : decode cX10_would 34 = .ok (.iload 5, 2) := by decide +kernel
theorem dX10_would_36 : decode cX10_would 36 = .ok (.iconst 0, 1) := by decide +kernel
theorem dX10_would_37 : decode cX10_would 37 = .ok (.sipush 999, 3) := by decide +kernel
theorem dX10_would_40 : decode cX10_would 40 = .ok (.invokevirtual 158, 3) := by decide +kernel
theorem dX10_would_43 : decode cX10_would 43 = .ok (.aload_n 0, 1) := by decide +kernel
theorem dX10_would_44 : decode cX10_would 44 = .ok (.iload 6, 2) := by decide +kernel
theorem dX10_would_46 : decode cX10_would 46 = .ok (.iconst 0, 1) := by decide +kernel
theorem dX10_would_47 : decode cX10_would 47 = .ok (.sipush 999, 3) := by decide +kernel
theorem dX10_would_50 : decode cX10_would 50 = .ok (.invokevirtual 158, 3) := by decide +kernel
theorem dX10_would_53 : decode cX10_would 53 = .ok (.aload_n 0, 1) := by decide +kernel
theorem dX10_would_54 : decode cX10_would 54 = .ok (.iload 7, 2) := by decide +kernel
theorem dX10_would_56 : decode cX10_would 56 = .ok (.iconst 0, 1) := by decide +kernel
theorem dX10_would_57 : decode cX10_would 57 = .ok (.iconst 5, 1) := by decide +kernel
theorem dX10_would_58 : decode cX10_would 58 = .ok (.invokevirtual 158, 3) := by decide +kernel
theorem dX10_would_61 : decode cX10_would 61 = .ok (.aload_n 0, 1) := by decide +kernel
theorem dX10_would_62 : decode cX10_would 62 = .ok (.iload 8, 2) := by decide +kernel
theorem dX10_would_64 : decode cX10_would 64 = .ok (.iconst 0, 1) := by decide +kernel
theorem dX10_would_65 : decode cX10_would 65 = .ok (.sipush 900, 3) := by decide +kernel
theorem dX10_would_68 : decode cX10_would 68 = .ok (.invokevirtual 158, 3) := by decide +kernel
theorem dX10_would_71 : decode cX10_would 71 = .ok (.aload_n 0, 1) := by decide +kernel
theorem dX10_would_72 : decode cX10_would 72 = .ok (.getfield 19, 3) := by decide +kernel
theorem dX10_would_75 : decode cX10_would 75 = .ok (.getfield 245, 3) := by decide +kernel
theorem dX10_would_78 : decode cX10_would 78 = .ok (.astore 9, 2) := by decide +kernel
theorem dX10_would_80 : decode cX10_would 80 = .ok (.aload 9, 2) := by decide +kernel
theorem dX10_would_82 : decode cX10_would 82 = .ok (.iconst 0, 1) := by decide +kernel
theorem dX10_would_83 : decode cX10_would 83 = .ok (.iload_n 1, 1) := by decide +kernel
theorem dX10_would_84 : decode cX10_would 84 = .ok (.iastore, 1) := by decide +kernel
theorem dX10_would_85 : decode cX10_would 85 = .ok (.aload 9, 2) := by decide +kernel
theorem dX10_would_87 : decode cX10_would 87 = .ok (.iconst 1, 1) := by decide +kernel
theorem dX10_would_88 : decode cX10_would 88 = .ok (.iload_n 2, 1) := by decide +kernel
theorem dX10_would_89 : decode cX10_would 89 = .ok (.iastore, 1) := by decide +kernel
theorem dX10_would_90 : decode cX10_would 90 = .ok (.aload 9, 2) := by decide +kernel
theorem dX10_would_92 : decode cX10_would 92 = .ok (.iconst 2, 1) := by decide +kernel
theorem dX10_would_93 : decode cX10_would 93 = .ok (.iload_n 3, 1) := by decide +kernel
theorem dX10_would_94 : decode cX10_would 94 = .ok (.iastore, 1) := by decide +kernel
theorem dX10_would_95 : decode cX10_would 95 = .ok (.aload 9, 2) := by decide +kernel
theorem dX10_would_97 : decode cX10_would 97 = .ok (.iconst 3, 1) := by decide +kernel
theorem dX10_would_98 : decode cX10_would 98 = .ok (.iload 4, 2) := by decide +kernel
theorem dX10_would_100 : decode cX10_would 100 = .ok (.iastore, 1) := by decide +kernel
theorem dX10_would_101 : decode cX10_would 101 = .ok (.aload 9, 2) := by decide +kernel
theorem dX10_would_103 : decode cX10_would 103 = .ok (.iconst 4, 1) := by decide +kernel
theorem dX10_would_104 : decode cX10_would 104 = .ok (.iload 5, 2) := by decide +kernel
theorem dX10_would_106 : decode cX10_would 106 = .ok (.iastore, 1) := by decide +kernel
theorem dX10_would_107 : decode cX10_would 107 = .ok (.aload 9, 2) := by decide +kernel
theorem dX10_would_109 : decode cX10_would 109 = .ok (.iconst 5, 1) := by decide +kernel
theorem dX10_would_110 : decode cX10_would 110 = .ok (.iload 6, 2) := by decide +kernel
theorem dX10_would_112 : decode cX10_would 112 = .ok (.iastore, 1) := by decide +kernel
theorem dX10_would_113 : decode cX10_would 113 = .ok (.aload 9, 2) := by decide +kernel
theorem dX10_would_115 : decode cX10_would 115 = .ok (.bipush 6, 2) := by decide +kernel
theorem dX10_would_117 : decode cX10_would 117 = .ok (.iload 7, 2) := by decide +kernel
theorem dX10_would_119 : decode cX10_would 119 = .ok (.iastore, 1) := by decide +kernel
theorem dX10_would_120 : decode cX10_would 120 = .ok (.aload 9, 2) := by decide +kernel
theorem dX10_would_122 : decode cX10_would 122 = .ok (.bipush 7, 2) := by decide +kernel
theorem dX10_would_124 : decode cX10_would 124 = .ok (.iload 8, 2) := by decide +kernel
theorem dX10_would_126 : decode cX10_would 126 = .ok (.iastore, 1) := by decide +kernel
theorem dX10_would_127 : decode cX10_would 127 = .ok (.aload_n 0, 1) := by decide +kernel
theorem dX10_would_128 : decode cX10_would 128 = .ok (.getfield 19, 3) := by decide +kernel
theorem dX10_would_131 : decode cX10_would 131 = .ok (.getfield 114, 3) := by decide +kernel
theorem dX10_would_134 : decode cX10_would 134 = .ok (.aload 9, 2) := by decide +kernel
theorem dX10_would_136 : decode cX10_would 136 = .ok (.invokevirtual 248, 3) := by decide +kernel
theorem dX10_would_139 : decode cX10_would 139 = .ok (.ireturn, 1) := by decide +kernel
theorem dX10_ahead_0 : decode cX10_ahead 0 = .ok (.aload_n 0, 1) := by decide +kernel
theorem dX10_ahead_1 : decode cX10_ahead 1 = .ok (.iload_n 1, 1) := by decide +kernel
theorem dX10_ahead_2 : decode cX10_ahead 2 = .ok (.iconst 0, 1) := by decide +kernel
theorem dX10_ahead_3 : decode cX10_ahead 3 = .ok (.bipush 99, 2) := by decide +kernel
theorem dX10_ahead_5 : decode cX10_ahead 5 = .ok (.invokevirtual 158, 3) := by decide +kernel
theorem dX10_ahead_8 : decode cX10_ahead 8 = .ok (.aload_n 0, 1) := by decide +kernel
theorem dX10_ahead_9 : decode cX10_ahead 9 = .ok (.iload_n 2, 1) := by decide +kernel
theorem dX10_ahead_10 : decode cX10_ahead 10 = .ok (.iconst 0, 1) := by decide +kernel
theorem dX10_ahead_11 : decode cX10_ahead 11 = .ok (.iconst 2, 1) := by decide +kernel
theorem dX10_ahead_12 : decode cX10_ahead 12 = .ok (.invokevirtual 158, 3) := by decide +kernel
theorem dX10_ahead_15 : decode cX10_ahead 15 = .ok (.aload_n 0, 1) := by decide +kernel
theorem dX10_ahead_16 : decode cX10_ahead 16 = .ok (.getfield 30, 3) := by decide +kernel
theorem dX10_ahead_19 : decode cX10_ahead 19 = .ok (.aload_n 0, 1) := by decide +kernel
theorem dX10_ahead_20 : decode cX10_ahead 20 = .ok (.getfield 26, 3) := by decide +kernel
theorem dX10_ahead_23 : decode cX10_ahead 23 = .ok (.invokevirtual 252, 3) := by decide +kernel
theorem dX10_ahead_26 : decode cX10_ahead 26 = .ok (.iconst 0, 1) := by decide +kernel
theorem dX10_ahead_27 : decode cX10_ahead 27 = .ok (.istore_n 3, 1) := by decide +kernel
theorem dX10_ahead_28 : decode cX10_ahead 28 = .ok (.iload_n 3, 1) := by decide +kernel
theorem dX10_ahead_29 : decode cX10_ahead 29 = .ok (.iload_n 1, 1) := by decide +kernel
theorem dX10_ahead_30 : decode cX10_ahead 30 = .ok (.if_icmp .ge 20, 3) := by decide +kernel
theorem dX10_ahead_33 : decode cX10_ahead 33 = .ok (.aload_n 0, 1) := by decide +kernel
theorem dX10_ahead_34 : decode cX10_ahead 34 = .ok (.getfield 19, 3) := by decide +kernel
theorem dX10_ahead_37 : decode cX10_ahead 37 = .ok (.aload_n 0, 1) := by decide +kernel
theorem dX10_ahead_38 : decode cX10_ahead 38 = .ok (.getfield 30, 3) := by decide +kernel
theorem dX10_ahead_41 : decode cX10_ahead 41 = .ok (.invokevirtual 255, 3) := by decide +kernel
theorem dX10_ahead_44 : decode cX10_ahead 44 = .ok (.iinc 3 1, 3) := by decide +kernel
theorem dX10_ahead_47 : decode cX10_ahead 47 = .ok (.goto (-19), 3) := by decide +kernel
theorem dX10_ahead_50 : decode cX10_ahead 50 = .ok (.aload_n 0, 1) := by decide +kernel
theorem dX10_ahead_51 : decode cX10_ahead 51 = .ok (.iload_n 2, 1) := by decide +kernel
theorem dX10_ahead_52 : decode cX10_ahead 52 = .ok (.invokevirtual 258, 3) := by decide +kernel
theorem dX10_ahead_55 : decode cX10_ahead 55 = .ok (.ireturn, 1) := by decide +kernel
theorem dX10_doom_0 : decode cX10_doom 0 = .ok (.aload_n 0, 1) := by decide +kernel
theorem dX10_doom_1 : decode cX10_doom 1 = .ok (.iload_n 1, 1) := by decide +kernel
theorem dX10_doom_2 : decode cX10_doom 2 = .ok (.aload_n 0, 1) := by decide +kernel
theorem dX10_doom_3 : decode cX10_doom 3 = .ok (.getfield 19, 3) := by decide +kernel
theorem dX10_doom_6 : decode cX10_doom 6 = .ok (.getfield 85, 3) := by decide +kernel
theorem dX10_doom_9 : decode cX10_doom 9 = .ok (.getfield 127, 3) := by decide +kernel
theorem dX10_doom_12 : decode cX10_doom 12 = .ok (.invokevirtual 187, 3) := by decide +kernel
theorem dX10_doom_15 : decode cX10_doom 15 = .ok (.aload_n 0, 1) := by decide +kernel
theorem dX10_doom_16 : decode cX10_doom 16 = .ok (.getfield 30, 3) := by decide +kernel
theorem dX10_doom_19 : decode cX10_doom 19 = .ok (.aload_n 0, 1) := by decide +kernel
theorem dX10_doom_20 : decode cX10_doom 20 = .ok (.getfield 26, 3) := by decide +kernel
theorem dX10_doom_23 : decode cX10_doom 23 = .ok (.invokevirtual 252, 3) := by decide +kernel
theorem dX10_doom_26 : decode cX10_doom 26 = .ok (.iconst 0, 1) := by decide +kernel
theorem dX10_doom_27 : decode cX10_doom 27 = .ok (.istore_n 2, 1) := by decide +kernel
theorem dX10_doom_28 : decode cX10_doom 28 = .ok (.iload_n 2, 1) := by decide +kernel
theorem dX10_doom_29 : decode cX10_doom 29 = .ok (.sipush 200, 3) := by decide +kernel
theorem dX10_doom_32 : decode cX10_doom 32 = .ok (.if_icmp .ge 33, 3) := by decide +kernel
theorem dX10_doom_35 : decode cX10_doom 35 = .ok (.aload_n 0, 1) := by decide +kernel
theorem dX10_doom_36 : decode cX10_doom 36 = .ok (.getfield 30, 3) := by decide +kernel
theorem dX10_doom_39 : decode cX10_doom 39 = .ok (.iload_n 1, 1) := by decide +kernel
theorem dX10_doom_40 : decode cX10_doom 40 = .ok (.invokevirtual 237, 3) := by decide +kernel
theorem dX10_doom_43 : decode cX10_doom 43 = .ok (.ifCond .ne 5, 3) := by decide +kernel
theorem dX10_doom_46 : decode cX10_doom 46 = .ok (.iload_n 2, 1) := by decide +kernel
theorem dX10_doom_47 : decode cX10_doom 47 = .ok (.ireturn, 1) := by decide +kernel
theorem dX10_doom_48 : decode cX10_doom 48 = .ok (.aload_n 0, 1) := by decide +kernel
theorem dX10_doom_49 : decode cX10_doom 49 = .ok (.getfield 19, 3) := by decide +kernel
theorem dX10_doom_52 : decode cX10_doom 52 = .ok (.aload_n 0, 1) := by decide +kernel
theorem dX10_doom_53 : decode cX10_doom 53 = .ok (.getfield 30, 3) := by decide +kernel
theorem dX10_doom_56 : decode cX10_doom 56 = .ok (.invokevirtual 255, 3) := by decide +kernel
theorem dX10_doom_59 : decode cX10_doom 59 = .ok (.iinc 2 1, 3) := by decide +kernel
theorem dX10_doom_62 : decode cX10_doom 62 = .ok (.goto (-34), 3) := by decide +kernel
theorem dX10_doom_65 : decode cX10_doom 65 = .ok (.aload_n 0, 1) := by decide +kernel
theorem dX10_doom_66 : decode cX10_doom 66 = .ok (.getfield 30, 3) := by decide +kernel
theorem dX10_doom_69 : decode cX10_doom 69 = .ok (.iload_n 1, 1) := by decide +kernel
theorem dX10_doom_70 : decode cX10_doom 70 = .ok (.invokevirtual 237, 3) := by decide +kernel
theorem dX10_doom_73 : decode cX10_doom 73 = .ok (.ifCond .eq 7, 3) := by decide +kernel
theorem dX10_doom_76 : decode cX10_doom 76 = .ok (.iconst (-1), 1) := by decide +kernel
theorem dX10_doom_77 : decode cX10_doom 77 = .ok (.goto 6, 3) := by decide +kernel
theorem dX10_doom_80 : decode cX10_doom 80 = .ok (.sipush 200, 3) := by decide +kernel
theorem dX10_doom_83 : decode cX10_doom 83 = .ok (.ireturn, 1) := by decide +kernel
theorem dX10_suits_0 : decode cX10_suits 0 = .ok (.aload_n 0, 1) := by decide +kernel
theorem dX10_suits_1 : decode cX10_suits 1 = .ok (.iload_n 1, 1) := by decide +kernel
theorem dX10_suits_2 : decode cX10_suits 2 = .ok (.aload_n 0, 1) := by decide +kernel
theorem dX10_suits_3 : decode cX10_suits 3 = .ok (.getfield 19, 3) := by decide +kernel
theorem dX10_suits_6 : decode cX10_suits 6 = .ok (.getfield 85, 3) := by decide +kernel
theorem dX10_suits_9 : decode cX10_suits 9 = .ok (.getfield 127, 3) := by decide +kernel
theorem dX10_suits_12 : decode cX10_suits 12 = .ok (.invokevirtual 187, 3) := by decide +kernel
theorem dX10_suits_15 : decode cX10_suits 15 = .ok (.aload_n 0, 1) := by decide +kernel
theorem dX10_suits_16 : decode cX10_suits 16 = .ok (.iload_n 2, 1) := by decide +kernel
theorem dX10_suits_17 : decode cX10_suits 17 = .ok (.aload_n 0, 1) := by decide +kernel
theorem dX10_suits_18 : decode cX10_suits 18 = .ok (.getfield 19, 3) := by decide +kernel
theorem dX10_suits_21 : decode cX10_suits 21 = .ok (.getfield 85, 3) := by decide +kernel
theorem dX10_suits_24 : decode cX10_suits 24 = .ok (.getfield 165, 3) := by decide +kernel
theorem dX10_suits_27 : decode cX10_suits 27 = .ok (.invokevirtual 187, 3) := by decide +kernel
theorem dX10_suits_30 : decode cX10_suits 30 = .ok (.aload_n 0, 1) := by decide +kernel
theorem dX10_suits_31 : decode cX10_suits 31 = .ok (.iload_n 3, 1) := by decide +kernel
theorem dX10_suits_32 : decode cX10_suits 32 = .ok (.iconst 0, 1) := by decide +kernel
theorem dX10_suits_33 : decode cX10_suits 33 = .ok (.bipush 24, 2) := by decide +kernel
theorem dX10_suits_35 : decode cX10_suits 35 = .ok (.invokevirtual 158, 3) := by decide +kernel
theorem dX10_suits_38 : decode cX10_suits 38 = .ok (.aload_n 0, 1) := by decide +kernel
theorem dX10_suits_39 : decode cX10_suits 39 = .ok (.iload 4, 2) := by decide +kernel
theorem dX10_suits_41 : decode cX10_suits 41 = .ok (.iconst 0, 1) := by decide +kernel
theorem dX10_suits_42 : decode cX10_suits 42 = .ok (.iconst 1, 1) := by decide +kernel
theorem dX10_suits_43 : decode cX10_suits 43 = .ok (.invokevirtual 158, 3) := by decide +kernel
theorem dX10_suits_46 : decode cX10_suits 46 = .ok (.aload_n 0, 1) := by decide +kernel
theorem dX10_suits_47 : decode cX10_suits 47 = .ok (.getfield 50, 3) := by decide +kernel
theorem dX10_suits_50 : decode cX10_suits 50 = .ok (.aload_n 0, 1) := by decide +kernel
theorem dX10_suits_51 : decode cX10_suits 51 = .ok (.getfield 19, 3) := by decide +kernel
theorem dX10_suits_54 : decode cX10_suits 54 = .ok (.aload_n 0, 1) := by decide +kernel
theorem dX10_suits_55 : decode cX10_suits 55 = .ok (.getfield 26, 3) := by decide +kernel
theorem dX10_suits_58 : decode cX10_suits 58 = .ok (.iload_n 1, 1) := by decide +kernel
theorem dX10_suits_59 : decode cX10_suits 59 = .ok (.iload_n 2, 1) := by decide +kernel
theorem dX10_suits_60 : decode cX10_suits 60 = .ok (.iload_n 3, 1) := by decide +kernel
theorem dX10_suits_61 : decode cX10_suits 61 = .ok (.invokevirtual 261, 3) := by decide +kernel
theorem dX10_suits_64 : decode cX10_suits 64 = .ok (.iload 4, 2) := by decide +kernel
theorem dX10_suits_66 : decode cX10_suits 66 = .ok (.ifCond .ne 13, 3) := by decide +kernel
theorem dX10_suits_69 : decode cX10_suits 69 = .ok (.aload_n 0, 1) := by decide +kernel
theorem dX10_suits_70 : decode cX10_suits 70 = .ok (.getfield 50, 3) := by decide +kernel
theorem dX10_suits_73 : decode cX10_suits 73 = .ok (.getfield 265, 3) := by decide +kernel
theorem dX10_suits_76 : decode cX10_suits 76 = .ok (.goto 10, 3) := by decide +kernel
theorem dX10_suits_79 : decode cX10_suits 79 = .ok (.aload_n 0, 1) := by decide +kernel
theorem dX10_suits_80 : decode cX10_suits 80 = .ok (.getfield 50, 3) := by decide +kernel
theorem dX10_suits_83 : decode cX10_suits 83 = .ok (.getfield 268, 3) := by decide +kernel
theorem dX10_suits_86 : decode cX10_suits 86 = .ok (.ireturn, 1) := by decide +kernel
theorem dX10_hatted_0 : decode cX10_hatted 0 = .ok (.aload_n 0, 1) := by decide +kernel
theorem dX10_hatted_1 : decode cX10_hatted 1 = .ok (.iload_n 1, 1) := by decide +kernel
theorem dX10_hatted_2 : decode cX10_hatted 2 = .ok (.aload_n 0, 1) := by decide +kernel
theorem dX10_hatted_3 : decode cX10_hatted 3 = .ok (.getfield 19, 3) := by decide +kernel
theorem dX10_hatted_6 : decode cX10_hatted 6 = .ok (.getfield 85, 3) := by decide +kernel
theorem dX10_hatted_9 : decode cX10_hatted 9 = .ok (.getfield 165, 3) := by decide +kernel
theorem dX10_hatted_12 : decode cX10_hatted 12 = .ok (.invokevirtual 187, 3) := by decide +kernel
theorem dX10_hatted_15 : decode cX10_hatted 15 = .ok (.aload_n 0, 1) := by decide +kernel
theorem dX10_hatted_16 : decode cX10_hatted 16 = .ok (.getfield 50, 3) := by decide +kernel
theorem dX10_hatted_19 : decode cX10_hatted 19 = .ok (.aload_n 0, 1) := by decide +kernel
theorem dX10_hatted_20 : decode cX10_hatted 20 = .ok (.getfield 19, 3) := by decide +kernel
theorem dX10_hatted_23 : decode cX10_hatted 23 = .ok (.aload_n 0, 1) := by decide +kernel
theorem dX10_hatted_24 : decode cX10_hatted 24 = .ok (.getfield 26, 3) := by decide +kernel
theorem dX10_hatted_27 : decode cX10_hatted 27 = .ok (.iload_n 1, 1) := by decide +kernel
theorem dX10_hatted_28 : decode cX10_hatted 28 = .ok (.invokevirtual 271, 3) := by decide +kernel
theorem dX10_hatted_31 : decode cX10_hatted 31 = .ok (.ireturn, 1) := by decide +kernel
theorem dX10_given_0 : decode cX10_given 0 = .ok (.aload_n 0, 1) := by decide +kernel
theorem dX10_given_1 : decode cX10_given 1 = .ok (.iload_n 1, 1) := by decide +kernel
theorem dX10_given_2 : decode cX10_given 2 = .ok (.aload_n 0, 1) := by decide +kernel
theorem dX10_given_3 : decode cX10_given 3 = .ok (.getfield 19, 3) := by decide +kernel
theorem dX10_given_6 : decode cX10_given 6 = .ok (.getfield 85, 3) := by decide +kernel
theorem dX10_given_9 : decode cX10_given 9 = .ok (.getfield 165, 3) := by decide +kernel
theorem dX10_given_12 : decode cX10_given 12 = .ok (.invokevirtual 187, 3) := by decide +kernel
theorem dX10_given_15 : decode cX10_given 15 = .ok (.aload_n 0, 1) := by decide +kernel
theorem dX10_given_16 : decode cX10_given 16 = .ok (.iload_n 2, 1) := by decide +kernel
theorem dX10_given_17 : decode cX10_given 17 = .ok (.aload_n 0, 1) := by decide +kernel
theorem dX10_given_18 : decode cX10_given 18 = .ok (.getfield 19, 3) := by decide +kernel
theorem dX10_given_21 : decode cX10_given 21 = .ok (.getfield 85, 3) := by decide +kernel
theorem dX10_given_24 : decode cX10_given 24 = .ok (.getfield 127, 3) := by decide +kernel
theorem dX10_given_27 : decode cX10_given 27 = .ok (.invokevirtual 187, 3) := by decide +kernel
theorem dX10_given_30 : decode cX10_given 30 = .ok (.aload_n 0, 1) := by decide +kernel
theorem dX10_given_31 : decode cX10_given 31 = .ok (.getfield 50, 3) := by decide +kernel
theorem dX10_given_34 : decode cX10_given 34 = .ok (.aload_n 0, 1) := by decide +kernel
theorem dX10_given_35 : decode cX10_given 35 = .ok (.getfield 19, 3) := by decide +kernel
theorem dX10_given_38 : decode cX10_given 38 = .ok (.aload_n 0, 1) := by decide +kernel
theorem dX10_given_39 : decode cX10_given 39 = .ok (.getfield 26, 3) := by decide +kernel
theorem dX10_given_42 : decode cX10_given 42 = .ok (.iload_n 1, 1) := by decide +kernel
theorem dX10_given_43 : decode cX10_given 43 = .ok (.invokevirtual 271, 3) := by decide +kernel
theorem dX10_given_46 : decode cX10_given 46 = .ok (.pop, 1) := by decide +kernel
theorem dX10_given_47 : decode cX10_given 47 = .ok (.aload_n 0, 1) := by decide +kernel
theorem dX10_given_48 : decode cX10_given 48 = .ok (.getfield 50, 3) := by decide +kernel
theorem dX10_given_51 : decode cX10_given 51 = .ok (.getfield 275, 3) := by decide +kernel
theorem dX10_given_54 : decode cX10_given 54 = .ok (.iload_n 2, 1) := by decide +kernel
theorem dX10_given_55 : decode cX10_given 55 = .ok (.iaload, 1) := by decide +kernel
theorem dX10_given_56 : decode cX10_given 56 = .ok (.ireturn, 1) := by decide +kernel
theorem dX10_line_0 : decode cX10_line 0 = .ok (.aload_n 0, 1) := by decide +kernel
theorem dX10_line_1 : decode cX10_line 1 = .ok (.iload_n 1, 1) := by decide +kernel
theorem dX10_line_2 : decode cX10_line 2 = .ok (.aload_n 0, 1) := by decide +kernel
theorem dX10_line_3 : decode cX10_line 3 = .ok (.getfield 19, 3) := by decide +kernel
theorem dX10_line_6 : decode cX10_line 6 = .ok (.getfield 85, 3) := by decide +kernel
theorem dX10_line_9 : decode cX10_line 9 = .ok (.getfield 127, 3) := by decide +kernel
theorem dX10_line_12 : decode cX10_line 12 = .ok (.invokevirtual 187, 3) := by decide +kernel
theorem dX10_line_15 : decode cX10_line 15 = .ok (.aload_n 0, 1) := by decide +kernel
