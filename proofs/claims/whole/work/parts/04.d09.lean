theorem dX9_doStep_88 : decode cX9_doStep 88 = .ok (.ireturn, 1) := by decide +kernel
theorem dX9_doStep_89 : decode cX9_doStep 89 = .ok (.aload_n 1, 1) := by decide +kernel
theorem dX9_doStep_90 : decode cX9_doStep 90 = .ok (.aload_n 0, 1) := by decide +kernel
theorem dX9_doStep_91 : decode cX9_doStep 91 = .ok (.getfield 15, 3) := by decide +kernel
theorem dX9_doStep_94 : decode cX9_doStep 94 = .ok (.iload_n 3, 1) := by decide +kernel
theorem dX9_doStep_95 : decode cX9_doStep 95 = .ok (.iaload, 1) := by decide +kernel
theorem dX9_doStep_96 : decode cX9_doStep 96 = .ok (.invokevirtual 128, 3) := by decide +kernel
theorem dX9_doStep_99 : decode cX9_doStep 99 = .ok (.ireturn, 1) := by decide +kernel
theorem dX9_doStep_100 : decode cX9_doStep 100 = .ok (.aload_n 1, 1) := by decide +kernel
theorem dX9_doStep_101 : decode cX9_doStep 101 = .ok (.aload_n 0, 1) := by decide +kernel
theorem dX9_doStep_102 : decode cX9_doStep 102 = .ok (.getfield 15, 3) := by decide +kernel
theorem dX9_doStep_105 : decode cX9_doStep 105 = .ok (.iload_n 3, 1) := by decide +kernel
theorem dX9_doStep_106 : decode cX9_doStep 106 = .ok (.iaload, 1) := by decide +kernel
theorem dX9_doStep_107 : decode cX9_doStep 107 = .ok (.invokevirtual 131, 3) := by decide +kernel
theorem dX9_doStep_110 : decode cX9_doStep 110 = .ok (.ireturn, 1) := by decide +kernel
theorem dX9_doStep_111 : decode cX9_doStep 111 = .ok (.aload_n 1, 1) := by decide +kernel
theorem dX9_doStep_112 : decode cX9_doStep 112 = .ok (.aload_n 0, 1) := by decide +kernel
theorem dX9_doStep_113 : decode cX9_doStep 113 = .ok (.getfield 15, 3) := by decide +kernel
theorem dX9_doStep_116 : decode cX9_doStep 116 = .ok (.iload_n 3, 1) := by decide +kernel
theorem dX9_doStep_117 : decode cX9_doStep 117 = .ok (.iaload, 1) := by decide +kernel
theorem dX9_doStep_118 : decode cX9_doStep 118 = .ok (.aload_n 2, 1) := by decide +kernel
theorem dX9_doStep_119 : decode cX9_doStep 119 = .ok (.getfield 133, 3) := by decide +kernel
theorem dX9_doStep_122 : decode cX9_doStep 122 = .ok (.getfield 139, 3) := by decide +kernel
theorem dX9_doStep_125 : decode cX9_doStep 125 = .ok (.aload_n 0, 1) := by decide +kernel
theorem dX9_doStep_126 : decode cX9_doStep 126 = .ok (.getfield 15, 3) := by decide +kernel
theorem dX9_doStep_129 : decode cX9_doStep 129 = .ok (.iload_n 3, 1) := by decide +kernel
theorem dX9_doStep_130 : decode cX9_doStep 130 = .ok (.iaload, 1) := by decide +kernel
theorem dX9_doStep_131 : decode cX9_doStep 131 = .ok (.iaload, 1) := by decide +kernel
theorem dX9_doStep_132 : decode cX9_doStep 132 = .ok (.invokevirtual 142, 3) := by decide +kernel
theorem dX9_doStep_135 : decode cX9_doStep 135 = .ok (.ireturn, 1) := by decide +kernel
theorem dX9_doStep_136 : decode cX9_doStep 136 = .ok (.aload_n 1, 1) := by decide +kernel
theorem dX9_doStep_137 : decode cX9_doStep 137 = .ok (.getfield 144, 3) := by decide +kernel
theorem dX9_doStep_140 : decode cX9_doStep 140 = .ok (.sipush 900, 3) := by decide +kernel
theorem dX9_doStep_143 : decode cX9_doStep 143 = .ok (.if_icmp .lt 5, 3) := by decide +kernel
theorem dX9_doStep_146 : decode cX9_doStep 146 = .ok (.iconst 0, 1) := by decide +kernel
theorem dX9_doStep_147 : decode cX9_doStep 147 = .ok (.ireturn, 1) := by decide +kernel
theorem dX9_doStep_148 : decode cX9_doStep 148 = .ok (.aload_n 2, 1) := by decide +kernel
theorem dX9_doStep_149 : decode cX9_doStep 149 = .ok (.aload_n 1, 1) := by decide +kernel
theorem dX9_doStep_150 : decode cX9_doStep 150 = .ok (.invokevirtual 146, 3) := by decide +kernel
theorem dX9_doStep_153 : decode cX9_doStep 153 = .ok (.iconst 1, 1) := by decide +kernel
theorem dX9_doStep_154 : decode cX9_doStep 154 = .ok (.ireturn, 1) := by decide +kernel
theorem dX10_init_0 : decode cX10_init 0 = .ok (.aload_n 0, 1) := by decide +kernel
theorem dX10_init_1 : decode cX10_init 1 = .ok (.invokespecial 1, 3) := by decide +kernel
theorem dX10_init_4 : decode cX10_init 4 = .ok (.aload_n 0, 1) := by decide +kernel
theorem dX10_init_5 : decode cX10_init 5 = .ok (.new 7, 3) := by decide +kernel
theorem dX10_init_8 : decode cX10_init 8 = .ok (.dup, 1) := by decide +kernel
theorem dX10_init_9 : decode cX10_init 9 = .ok (.invokespecial 9, 3) := by decide +kernel
theorem dX10_init_12 : decode cX10_init 12 = .ok (.putfield 10, 3) := by decide +kernel
theorem dX10_init_15 : decode cX10_init 15 = .ok (.aload_n 0, 1) := by decide +kernel
theorem dX10_init_16 : decode cX10_init 16 = .ok (.new 16, 3) := by decide +kernel
theorem dX10_init_19 : decode cX10_init 19 = .ok (.dup, 1) := by decide +kernel
theorem dX10_init_20 : decode cX10_init 20 = .ok (.invokespecial 18, 3) := by decide +kernel
theorem dX10_init_23 : decode cX10_init 23 = .ok (.putfield 19, 3) := by decide +kernel
theorem dX10_init_26 : decode cX10_init 26 = .ok (.aload_n 0, 1) := by decide +kernel
theorem dX10_init_27 : decode cX10_init 27 = .ok (.new 23, 3) := by decide +kernel
theorem dX10_init_30 : decode cX10_init 30 = .ok (.dup, 1) := by decide +kernel
theorem dX10_init_31 : decode cX10_init 31 = .ok (.invokespecial 25, 3) := by decide +kernel
theorem dX10_init_34 : decode cX10_init 34 = .ok (.putfield 26, 3) := by decide +kernel
theorem dX10_init_37 : decode cX10_init 37 = .ok (.aload_n 0, 1) := by decide +kernel
theorem dX10_init_38 : decode cX10_init 38 = .ok (.new 23, 3) := by decide +kernel
theorem dX10_init_41 : decode cX10_init 41 = .ok (.dup, 1) := by decide +kernel
theorem dX10_init_42 : decode cX10_init 42 = .ok (.invokespecial 25, 3) := by decide +kernel
theorem dX10_init_45 : decode cX10_init 45 = .ok (.putfield 30, 3) := by decide +kernel
theorem dX10_init_48 : decode cX10_init 48 = .ok (.aload_n 0, 1) := by decide +kernel
theorem dX10_init_49 : decode cX10_init 49 = .ok (.new 33, 3) := by decide +kernel
theorem dX10_init_52 : decode cX10_init 52 = .ok (.dup, 1) := by decide +kernel
theorem dX10_init_53 : decode cX10_init 53 = .ok (.invokespecial 35, 3) := by decide +kernel
theorem dX10_init_56 : decode cX10_init 56 = .ok (.putfield 36, 3) := by decide +kernel
theorem dX10_init_59 : decode cX10_init 59 = .ok (.aload_n 0, 1) := by decide +kernel
theorem dX10_init_60 : decode cX10_init 60 = .ok (.new 40, 3) := by decide +kernel
theorem dX10_init_63 : decode cX10_init 63 = .ok (.dup, 1) := by decide +kernel
theorem dX10_init_64 : decode cX10_init 64 = .ok (.invokespecial 42, 3) := by decide +kernel
theorem dX10_init_67 : decode cX10_init 67 = .ok (.putfield 43, 3) := by decide +kernel
theorem dX10_init_70 : decode cX10_init 70 = .ok (.aload_n 0, 1) := by decide +kernel
theorem dX10_init_71 : decode cX10_init 71 = .ok (.new 47, 3) := by decide +kernel
theorem dX10_init_74 : decode cX10_init 74 = .ok (.dup, 1) := by decide +kernel
theorem dX10_init_75 : decode cX10_init 75 = .ok (.invokespecial 49, 3) := by decide +kernel
theorem dX10_init_78 : decode cX10_init 78 = .ok (.putfield 50, 3) := by decide +kernel
theorem dX10_init_81 : decode cX10_init 81 = .ok (.aload_n 0, 1) := by decide +kernel
theorem dX10_init_82 : decode cX10_init 82 = .ok (.new 54, 3) := by decide +kernel
theorem dX10_init_85 : decode cX10_init 85 = .ok (.dup, 1) := by decide +kernel
theorem dX10_init_86 : decode cX10_init 86 = .ok (.invokespecial 56, 3) := by decide +kernel
theorem dX10_init_89 : decode cX10_init 89 = .ok (.putfield 57, 3) := by decide +kernel
theorem dX10_init_92 : decode cX10_init 92 = .ok (.aload_n 0, 1) := by decide +kernel
theorem dX10_init_93 : decode cX10_init 93 = .ok (.new 61, 3) := by decide +kernel
theorem dX10_init_96 : decode cX10_init 96 = .ok (.dup, 1) := by decide +kernel
theorem dX10_init_97 : decode cX10_init 97 = .ok (.invokespecial 63, 3) := by decide +kernel
theorem dX10_init_100 : decode cX10_init 100 = .ok (.putfield 64, 3) := by decide +kernel
theorem dX10_init_103 : decode cX10_init 103 = .ok (.aload_n 0, 1) := by decide +kernel
theorem dX10_init_104 : decode cX10_init 104 = .ok (.new 68, 3) := by decide +kernel
theorem dX10_init_107 : decode cX10_init 107 = .ok (.dup, 1) := by decide +kernel
theorem dX10_init_108 : decode cX10_init 108 = .ok (.invokespecial 70, 3) := by decide +kernel
theorem dX10_init_111 : decode cX10_init 111 = .ok (.putfield 71, 3) := by decide +kernel
theorem dX10_init_114 : decode cX10_init 114 = .ok (.aload_n 0, 1) := by decide +kernel
theorem dX10_init_115 : decode cX10_init 115 = .ok (.new 75, 3) := by decide +kernel
theorem dX10_init_118 : decode cX10_init 118 = .ok (.dup, 1) := by decide +kernel
theorem dX10_init_119 : decode cX10_init 119 = .ok (.invokespecial 77, 3) := by decide +kernel
theorem dX10_init_122 : decode cX10_init 122 = .ok (.putfield 78, 3) := by decide +kernel
theorem dX10_init_125 : decode cX10_init 125 = .ok (.aload_n 0, 1) := by decide +kernel
theorem dX10_init_126 : decode cX10_init 126 = .ok (.new 75, 3) := by decide +kernel
theorem dX10_init_129 : decode cX10_init 129 = .ok (.dup, 1) := by decide +kernel
theorem dX10_init_130 : decode cX10_init 130 = .ok (.invokespecial 77, 3) := by decide +kernel
theorem dX10_init_133 : decode cX10_init 133 = .ok (.putfield 82, 3) := by decide +kernel
theorem dX10_init_136 : decode cX10_init 136 = .ok (.aload_n 0, 1) := by decide +kernel
theorem dX10_init_137 : decode cX10_init 137 = .ok (.getfield 26, 3) := by decide +kernel
theorem dX10_init_140 : decode cX10_init 140 = .ok (.aload_n 0, 1) := by decide +kernel
theorem dX10_init_141 : decode cX10_init 141 = .ok (.getfield 19, 3) := by decide +kernel
theorem dX10_init_144 : decode cX10_init 144 = .ok (.getfield 85, 3) := by decide +kernel
theorem dX10_init_147 : decode cX10_init 147 = .ok (.invokevirtual 88, 3) := by decide +kernel
theorem dX10_init_150 : decode cX10_init 150 = .ok (.return_, 1) := by decide +kernel
theorem dX10_feed_0 : decode cX10_feed 0 = .ok (.aload_n 0, 1) := by decide +kernel
theorem dX10_feed_1 : decode cX10_feed 1 = .ok (.getfield 10, 3) := by decide +kernel
theorem dX10_feed_4 : decode cX10_feed 4 = .ok (.getfield 92, 3) := by decide +kernel
theorem dX10_feed_7 : decode cX10_feed 7 = .ok (.bipush 20, 2) := by decide +kernel
theorem dX10_feed_9 : decode cX10_feed 9 = .ok (.iadd, 1) := by decide +kernel
theorem dX10_feed_10 : decode cX10_feed 10 = .ok (.sipush 600, 3) := by decide +kernel
theorem dX10_feed_13 : decode cX10_feed 13 = .ok (.if_icmp .le 5, 3) := by decide +kernel
theorem dX10_feed_16 : decode cX10_feed 16 = .ok (.iconst (-1), 1) := by decide +kernel
theorem dX10_feed_17 : decode cX10_feed 17 = .ok (.ireturn, 1) := by decide +kernel
theorem dX10_feed_18 : decode cX10_feed 18 = .ok (.aload_n 0, 1) := by decide +kernel
theorem dX10_feed_19 : decode cX10_feed 19 = .ok (.getfield 10, 3) := by decide +kernel
theorem dX10_feed_22 : decode cX10_feed 22 = .ok (.iload_n 1, 1) := by decide +kernel
theorem dX10_feed_23 : decode cX10_feed 23 = .ok (.invokevirtual 96, 3) := by decide +kernel
theorem dX10_feed_26 : decode cX10_feed 26 = .ok (.aload_n 0, 1) := by decide +kernel
theorem dX10_feed_27 : decode cX10_feed 27 = .ok (.getfield 10, 3) := by decide +kernel
theorem dX10_feed_30 : decode cX10_feed 30 = .ok (.iload_n 2, 1) := by decide +kernel
theorem dX10_feed_31 : decode cX10_feed 31 = .ok (.invokevirtual 96, 3) := by decide +kernel
theorem dX10_feed_34 : decode cX10_feed 34 = .ok (.aload_n 0, 1) := by decide +kernel
theorem dX10_feed_35 : decode cX10_feed 35 = .ok (.getfield 10, 3) := by decide +kernel
theorem dX10_feed_38 : decode cX10_feed 38 = .ok (.iload_n 3, 1) := by decide +kernel
theorem dX10_feed_39 : decode cX10_feed 39 = .ok (.invokevirtual 96, 3) := by decide +kernel
theorem dX10_feed_42 : decode cX10_feed 42 = .ok (.aload_n 0, 1) := by decide +kernel
theorem dX10_feed_43 : decode cX10_feed 43 = .ok (.getfield 10, 3) := by decide +kernel
theorem dX10_feed_46 : decode cX10_feed 46 = .ok (.iload 4, 2) := by decide +kernel
theorem dX10_feed_48 : decode cX10_feed 48 = .ok (.invokevirtual 96, 3) := by decide +kernel
theorem dX10_feed_51 : decode cX10_feed 51 = .ok (.aload_n 0, 1) := by decide +kernel
theorem dX10_feed_52 : decode cX10_feed 52 = .ok (.getfield 10, 3) := by decide +kernel
theorem dX10_feed_55 : decode cX10_feed 55 = .ok (.iload 5, 2) := by decide +kernel
theorem dX10_feed_57 : decode cX10_feed 57 = .ok (.invokevirtual 96, 3) := by decide +kernel
theorem dX10_feed_60 : decode cX10_feed 60 = .ok (.aload_n 0, 1) := by decide +kernel
theorem dX10_feed_61 : decode cX10_feed 61 = .ok (.getfield 10, 3) := by decide +kernel
theorem dX10_feed_64 : decode cX10_feed 64 = .ok (.getfield 92, 3) := by decide +kernel
theorem dX10_feed_67 : decode cX10_feed 67 = .ok (.ireturn, 1) := by decide +kernel
theorem dX10_coast_0 : decode cX10_coast 0 = .ok (.aload_n 0, 1) := by decide +kernel
theorem dX10_coast_1 : decode cX10_coast 1 = .ok (.iload_n 1, 1) := by decide +kernel
theorem dX10_coast_2 : decode cX10_coast 2 = .ok (.sipush 600, 3) := by decide +kernel
theorem dX10_coast_5 : decode cX10_coast 5 = .ok (.invokevirtual 100, 3) := by decide +kernel
theorem dX10_coast_8 : decode cX10_coast 8 = .ok (.aload_n 0, 1) := by decide +kernel
theorem dX10_coast_9 : decode cX10_coast 9 = .ok (.getfield 10, 3) := by decide +kernel
theorem dX10_coast_12 : decode cX10_coast 12 = .ok (.iload_n 1, 1) := by decide +kernel
theorem dX10_coast_13 : decode cX10_coast 13 = .ok (.invokevirtual 104, 3) := by decide +kernel
theorem dX10_coast_16 : decode cX10_coast 16 = .ok (.aload_n 0, 1) := by decide +kernel
theorem dX10_coast_17 : decode cX10_coast 17 = .ok (.getfield 64, 3) := by decide +kernel
theorem dX10_coast_20 : decode cX10_coast 20 = .ok (.aload_n 0, 1) := by decide +kernel
theorem dX10_coast_21 : decode cX10_coast 21 = .ok (.getfield 10, 3) := by decide +kernel
theorem dX10_coast_24 : decode cX10_coast 24 = .ok (.invokevirtual 107, 3) := by decide +kernel
theorem dX10_coast_27 : decode cX10_coast 27 = .ok (.ifCond .ne 14, 3) := by decide +kernel
theorem dX10_coast_30 : decode cX10_coast 30 = .ok (.aload_n 0, 1) := by decide +kernel
theorem dX10_coast_31 : decode cX10_coast 31 = .ok (.getfield 10, 3) := by decide +kernel
theorem dX10_coast_34 : decode cX10_coast 34 = .ok (.getfield 111, 3) := by decide +kernel
theorem dX10_coast_37 : decode cX10_coast 37 = .ok (.bipush 10, 2) := by decide +kernel
theorem dX10_coast_39 : decode cX10_coast 39 = .ok (.isub, 1) := by decide +kernel
theorem dX10_coast_40 : decode cX10_coast 40 = .ok (.ireturn, 1) := by decide +kernel
theorem dX10_coast_41 : decode cX10_coast 41 = .ok (.aload_n 0, 1) := by decide +kernel
theorem dX10_coast_42 : decode cX10_coast 42 = .ok (.getfield 19, 3) := by decide +kernel
theorem dX10_coast_45 : decode cX10_coast 45 = .ok (.getfield 85, 3) := by decide +kernel
theorem dX10_coast_48 : decode cX10_coast 48 = .ok (.astore_n 2, 1) := by decide +kernel
theorem dX10_coast_49 : decode cX10_coast 49 = .ok (.aload_n 0, 1) := by decide +kernel
theorem dX10_coast_50 : decode cX10_coast 50 = .ok (.getfield 19, 3) := by decide +kernel
theorem dX10_coast_53 : decode cX10_coast 53 = .ok (.aload_n 0, 1) := by decide +kernel
theorem dX10_coast_54 : decode cX10_coast 54 = .ok (.getfield 64, 3) := by decide +kernel
theorem dX10_coast_57 : decode cX10_coast 57 = .ok (.putfield 85, 3) := by decide +kernel
theorem dX10_coast_60 : decode cX10_coast 60 = .ok (.aload_n 0, 1) := by decide +kernel
theorem dX10_coast_61 : decode cX10_coast 61 = .ok (.aload_n 2, 1) := by decide +kernel
theorem dX10_coast_62 : decode cX10_coast 62 = .ok (.putfield 64, 3) := by decide +kernel
theorem dX10_coast_65 : decode cX10_coast 65 = .ok (.aload_n 0, 1) := by decide +kernel
theorem dX10_coast_66 : decode cX10_coast 66 = .ok (.getfield 19, 3) := by decide +kernel
theorem dX10_coast_69 : decode cX10_coast 69 = .ok (.getfield 114, 3) := by decide +kernel
theorem dX10_coast_72 : decode cX10_coast 72 = .ok (.invokevirtual 117, 3) := by decide +kernel
theorem dX10_coast_75 : decode cX10_coast 75 = .ok (.aload_n 0, 1) := by decide +kernel
theorem dX10_coast_76 : decode cX10_coast 76 = .ok (.getfield 78, 3) := by decide +kernel
theorem dX10_coast_79 : decode cX10_coast 79 = .ok (.iconst 0, 1) := by decide +kernel
theorem dX10_coast_80 : decode cX10_coast 80 = .ok (.putfield 120, 3) := by decide +kernel
theorem dX10_coast_83 : decode cX10_coast 83 = .ok (.aload_n 0, 1) := by decide +kernel
theorem dX10_coast_84 : decode cX10_coast 84 = .ok (.getfield 43, 3) := by decide +kernel
theorem dX10_coast_87 : decode cX10_coast 87 = .ok (.invokevirtual 121, 3) := by decide +kernel
theorem dX10_coast_90 : decode cX10_coast 90 = .ok (.aload_n 0, 1) := by decide +kernel
theorem dX10_coast_91 : decode cX10_coast 91 = .ok (.iconst 0, 1) := by decide +kernel
theorem dX10_coast_92 : decode cX10_coast 92 = .ok (.putfield 124, 3) := by decide +kernel
theorem dX10_coast_95 : decode cX10_coast 95 = .ok (.aload_n 0, 1) := by decide +kernel
theorem dX10_coast_96 : decode cX10_coast 96 = .ok (.getfield 26, 3) := by decide +kernel
theorem dX10_coast_99 : decode cX10_coast 99 = .ok (.aload_n 0, 1) := by decide +kernel
theorem dX10_coast_100 : decode cX10_coast 100 = .ok (.getfield 19, 3) := by decide +kernel
theorem dX10_coast_103 : decode cX10_coast 103 = .ok (.getfield 85, 3) := by decide +kernel
theorem dX10_coast_106 : decode cX10_coast 106 = .ok (.invokevirtual 88, 3) := by decide +kernel
theorem dX10_coast_109 : decode cX10_coast 109 = .ok (.aload_n 0, 1) := by decide +kernel
theorem dX10_coast_110 : decode cX10_coast 110 = .ok (.getfield 19, 3) := by decide +kernel
theorem dX10_coast_113 : decode cX10_coast 113 = .ok (.getfield 85, 3) := by decide +kernel
theorem dX10_coast_116 : decode cX10_coast 116 = .ok (.getfield 127, 3) := by decide +kernel
theorem dX10_coast_119 : decode cX10_coast 119 = .ok (.ireturn, 1) := by decide +kernel
theorem dX10_law_0 : decode cX10_law 0 = .ok (.aload_n 0, 1) := by decide +kernel
theorem dX10_law_1 : decode cX10_law 1 = .ok (.iload_n 1, 1) := by decide +kernel
theorem dX10_law_2 : decode cX10_law 2 = .ok (.sipush 150, 3) := by decide +kernel
theorem dX10_law_5 : decode cX10_law 5 = .ok (.invokevirtual 100, 3) := by decide +kernel
theorem dX10_law_8 : decode cX10_law 8 = .ok (.aload_n 0, 1) := by decide +kernel
theorem dX10_law_9 : decode cX10_law 9 = .ok (.getfield 10, 3) := by decide +kernel
theorem dX10_law_12 : decode cX10_law 12 = .ok (.iload_n 1, 1) := by decide +kernel
theorem dX10_law_13 : decode cX10_law 13 = .ok (.invokevirtual 104, 3) := by decide +kernel
theorem dX10_law_16 : decode cX10_law 16 = .ok (.aload_n 0, 1) := by decide +kernel
theorem dX10_law_17 : decode cX10_law 17 = .ok (.getfield 71, 3) := by decide +kernel
theorem dX10_law_20 : decode cX10_law 20 = .ok (.aload_n 0, 1) := by decide +kernel
theorem dX10_law_21 : decode cX10_law 21 = .ok (.getfield 10, 3) := by decide +kernel
theorem dX10_law_24 : decode cX10_law 24 = .ok (.invokevirtual 130, 3) := by decide +kernel
theorem dX10_law_27 : decode cX10_law 27 = .ok (.ifCond .ne 14, 3) := by decide +kernel
theorem dX10_law_30 : decode cX10_law 30 = .ok (.aload_n 0, 1) := by decide +kernel
theorem dX10_law_31 : decode cX10_law 31 = .ok (.getfield 10, 3) := by decide +kernel
theorem dX10_law_34 : decode cX10_law 34 = .ok (.getfield 111, 3) := by decide +kernel
theorem dX10_law_37 : decode cX10_law 37 = .ok (.bipush 10, 2) := by decide +kernel
theorem dX10_law_39 : decode cX10_law 39 = .ok (.isub, 1) := by decide +kernel
theorem dX10_law_40 : decode cX10_law 40 = .ok (.ireturn, 1) := by decide +kernel
theorem dX10_law_41 : decode cX10_law 41 = .ok (.aload_n 0, 1) := by decide +kernel
theorem dX10_law_42 : decode cX10_law 42 = .ok (.getfield 19, 3) := by decide +kernel
theorem dX10_law_45 : decode cX10_law 45 = .ok (.getfield 114, 3) := by decide +kernel
theorem dX10_law_48 : decode cX10_law 48 = .ok (.astore_n 2, 1) := by decide +kernel
theorem dX10_law_49 : decode cX10_law 49 = .ok (.aload_n 0, 1) := by decide +kernel
theorem dX10_law_50 : decode cX10_law 50 = .ok (.getfield 19, 3) := by decide +kernel
theorem dX10_law_53 : decode cX10_law 53 = .ok (.aload_n 0, 1) := by decide +kernel
theorem dX10_law_54 : decode cX10_law 54 = .ok (.getfield 71, 3) := by decide +kernel
theorem dX10_law_57 : decode cX10_law 57 = .ok (.putfield 114, 3) := by decide +kernel
theorem dX10_law_60 : decode cX10_law 60 = .ok (.aload_n 0, 1) := by decide +kernel
theorem dX10_law_61 : decode cX10_law 61 = .ok (.aload_n 2, 1) := by decide +kernel
theorem dX10_law_62 : decode cX10_law 62 = .ok (.putfield 71, 3) := by decide +kernel
theorem dX10_law_65 : decode cX10_law 65 = .ok (.iconst 1, 1) := by decide +kernel
theorem dX10_law_66 : decode cX10_law 66 = .ok (.ireturn, 1) := by decide +kernel
theorem dX10_work_0 : decode cX10_work 0 = .ok (.aload_n 0, 1) := by decide +kernel
theorem dX10_work_1 : decode cX10_work 1 = .ok (.iload_n 1, 1) := by decide +kernel
theorem dX10_work_2 : decode cX10_work 2 = .ok (.sipush 150, 3) := by decide +kernel
theorem dX10_work_5 : decode cX10_work 5 = .ok (.invokevirtual 100, 3) := by decide +kernel
theorem dX10_work_8 : decode cX10_work 8 = .ok (.aload_n 0, 1) := by decide +kernel
theorem dX10_work_9 : decode cX10_work 9 = .ok (.getfield 10, 3) := by decide +kernel
theorem dX10_work_12 : decode cX10_work 12 = .ok (.iload_n 1, 1) := by decide +kernel
theorem dX10_work_13 : decode cX10_work 13 = .ok (.invokevirtual 104, 3) := by decide +kernel
theorem dX10_work_16 : decode cX10_work 16 = .ok (.aload_n 0, 1) := by decide +kernel
theorem dX10_work_17 : decode cX10_work 17 = .ok (.getfield 43, 3) := by decide +kernel
theorem dX10_work_20 : decode cX10_work 20 = .ok (.getfield 131, 3) := by decide +kernel
theorem dX10_work_23 : decode cX10_work 23 = .ok (.bipush 16, 2) := by decide +kernel
theorem dX10_work_25 : decode cX10_work 25 = .ok (.if_icmp .lt 6, 3) := by decide +kernel
theorem dX10_work_28 : decode cX10_work 28 = .ok (.bipush (-20), 2) := by decide +kernel
theorem dX10_work_30 : decode cX10_work 30 = .ok (.ireturn, 1) := by decide +kernel
theorem dX10_work_31 : decode cX10_work 31 = .ok (.aload_n 0, 1) := by decide +kernel
theorem dX10_work_32 : decode cX10_work 32 = .ok (.getfield 36, 3) := by decide +kernel
theorem dX10_work_35 : decode cX10_work 35 = .ok (.aload_n 0, 1) := by decide +kernel
theorem dX10_work_36 : decode cX10_work 36 = .ok (.getfield 10, 3) := by decide +kernel
theorem dX10_work_39 : decode cX10_work 39 = .ok (.aload_n 0, 1) := by decide +kernel
theorem dX10_work_40 : decode cX10_work 40 = .ok (.getfield 19, 3) := by decide +kernel
theorem dX10_work_43 : decode cX10_work 43 = .ok (.getfield 85, 3) := by decide +kernel
theorem dX10_work_46 : decode cX10_work 46 = .ok (.invokevirtual 134, 3) := by decide +kernel
theorem dX10_work_49 : decode cX10_work 49 = .ok (.ifCond .ne 14, 3) := by decide +kernel
theorem dX10_work_52 : decode cX10_work 52 = .ok (.aload_n 0, 1) := by decide +kernel
theorem dX10_work_53 : decode cX10_work 53 = .ok (.getfield 10, 3) := by decide +kernel
theorem dX10_work_56 : decode cX10_work 56 = .ok (.getfield 111, 3) := by decide +kernel
theorem dX10_work_59 : decode cX10_work 59 = .ok (.bipush 10, 2) := by decide +kernel
theorem dX10_work_61 : decode cX10_work 61 = .ok (.isub, 1) := by decide +kernel
theorem dX10_work_62 : decode cX10_work 62 = .ok (.ireturn, 1) := by decide +kernel
theorem dX10_work_63 : decode cX10_work 63 = .ok (.aload_n 0, 1) := by decide +kernel
theorem dX10_work_64 : decode cX10_work 64 = .ok (.getfield 43, 3) := by decide +kernel
theorem dX10_work_67 : decode cX10_work 67 = .ok (.aload_n 0, 1) := by decide +kernel
theorem dX10_work_68 : decode cX10_work 68 = .ok (.getfield 26, 3) := by decide +kernel
theorem dX10_work_71 : decode cX10_work 71 = .ok (.invokevirtual 137, 3) := by decide +kernel
theorem dX10_work_74 : decode cX10_work 74 = .ok (.aload_n 0, 1) := by decide +kernel
theorem dX10_work_75 : decode cX10_work 75 = .ok (.getfield 36, 3) := by decide +kernel
theorem dX10_work_78 : decode cX10_work 78 = .ok (.aload_n 0, 1) := by decide +kernel
theorem dX10_work_79 : decode cX10_work 79 = .ok (.getfield 26, 3) := by decide +kernel
theorem dX10_work_82 : decode cX10_work 82 = .ok (.aload_n 0, 1) := by decide +kernel
theorem dX10_work_83 : decode cX10_work 83 = .ok (.getfield 19, 3) := by decide +kernel
theorem dX10_work_86 : decode cX10_work 86 = .ok (.invokevirtual 141, 3) := by decide +kernel
theorem dX10_work_89 : decode cX10_work 89 = .ok (.aload_n 0, 1) := by decide +kernel
theorem dX10_work_90 : decode cX10_work 90 = .ok (.aload_n 0, 1) := by decide +kernel
theorem dX10_work_91 : decode cX10_work 91 = .ok (.getfield 36, 3) := by decide +kernel
theorem dX10_work_94 : decode cX10_work 94 = .ok (.getfield 144, 3) := by decide +kernel
theorem dX10_work_97 : decode cX10_work 97 = .ok (.putfield 124, 3) := by decide +kernel
theorem dX10_work_100 : decode cX10_work 100 = .ok (.aload_n 0, 1) := by decide +kernel
theorem dX10_work_101 : decode cX10_work 101 = .ok (.getfield 36, 3) := by decide +kernel
theorem dX10_work_104 : decode cX10_work 104 = .ok (.getfield 147, 3) := by decide +kernel
theorem dX10_work_107 : decode cX10_work 107 = .ok (.ireturn, 1) := by decide +kernel
theorem dX10_book_0 : decode cX10_book 0 = .ok (.aload_n 0, 1) := by decide +kernel
theorem dX10_book_1 : decode cX10_book 1 = .ok (.iload_n 1, 1) := by decide +kernel
theorem dX10_book_2 : decode cX10_book 2 = .ok (.bipush 60, 2) := by decide +kernel
theorem dX10_book_4 : decode cX10_book 4 = .ok (.invokevirtual 100, 3) := by decide +kernel
theorem dX10_book_7 : decode cX10_book 7 = .ok (.aload_n 0, 1) := by decide +kernel
theorem dX10_book_8 : decode cX10_book 8 = .ok (.getfield 10, 3) := by decide +kernel
theorem dX10_book_11 : decode cX10_book 11 = .ok (.iload_n 1, 1) := by decide +kernel
theorem dX10_book_12 : decode cX10_book 12 = .ok (.invokevirtual 104, 3) := by decide +kernel
theorem dX10_book_15 : decode cX10_book 15 = .ok (.aload_n 0, 1) := by decide +kernel
theorem dX10_book_16 : decode cX10_book 16 = .ok (.getfield 82, 3) := by decide +kernel
theorem dX10_book_19 : decode cX10_book 19 = .ok (.aload_n 0, 1) := by decide +kernel
theorem dX10_book_20 : decode cX10_book 20 = .ok (.getfield 10, 3) := by decide +kernel
theorem dX10_book_23 : decode cX10_book 23 = .ok (.invokevirtual 150, 3) := by decide +kernel
theorem dX10_book_26 : decode cX10_book 26 = .ok (.ifCond .ne 14, 3) := by decide +kernel
theorem dX10_book_29 : decode cX10_book 29 = .ok (.aload_n 0, 1) := by decide +kernel
theorem dX10_book_30 : decode cX10_book 30 = .ok (.getfield 10, 3) := by decide +kernel
theorem dX10_book_33 : decode cX10_book 33 = .ok (.getfield 111, 3) := by decide +kernel
theorem dX10_book_36 : decode cX10_book 36 = .ok (.bipush 10, 2) := by decide +kernel
theorem dX10_book_38 : decode cX10_book 38 = .ok (.isub, 1) := by decide +kernel
theorem dX10_book_39 : decode cX10_book 39 = .ok (.ireturn, 1) := by decide +kernel
theorem dX10_book_40 : decode cX10_book 40 = .ok (.aload_n 0, 1) := by decide +kernel
theorem dX10_book_41 : decode cX10_book 41 = .ok (.getfield 78, 3) := by decide +kernel
theorem dX10_book_44 : decode cX10_book 44 = .ok (.astore_n 2, 1) := by decide +kernel
theorem dX10_book_45 : decode cX10_book 45 = .ok (.aload_n 0, 1) := by decide +kernel
theorem dX10_book_46 : decode cX10_book 46 = .ok (.aload_n 0, 1) := by decide +kernel
theorem dX10_book_47 : decode cX10_book 47 = .ok (.getfield 82, 3) := by decide +kernel
theorem dX10_book_50 : decode cX10_book 50 = .ok (.putfield 78, 3) := by decide +kernel
theorem dX10_book_53 : decode cX10_book 53 = .ok (.aload_n 0, 1) := by decide +kernel
theorem dX10_book_54 : decode cX10_book 54 = .ok (.aload_n 2, 1) := by decide +kernel
theorem dX10_book_55 : decode cX10_book 55 = .ok (.putfield 82, 3) := by decide +kernel
theorem dX10_book_58 : decode cX10_book 58 = .ok (.aload_n 0, 1) := by decide +kernel
theorem dX10_book_59 : decode cX10_book 59 = .ok (.getfield 78, 3) := by decide +kernel
theorem dX10_book_62 : decode cX10_book 62 = .ok (.getfield 120, 3) := by decide +kernel
theorem dX10_book_65 : decode cX10_book 65 = .ok (.ireturn, 1) := by decide +kernel
theorem dX10_fault_0 : decode cX10_fault 0 = .ok (.aload_n 0, 1) := by decide +kernel
theorem dX10_fault_1 : decode cX10_fault 1 = .ok (.getfield 10, 3) := by decide +kernel
theorem dX10_fault_4 : decode cX10_fault 4 = .ok (.getfield 151, 3) := by decide +kernel
theorem dX10_fault_7 : decode cX10_fault 7 = .ok (.ireturn, 1) := by decide +kernel
theorem dX10_undo_0 : decode cX10_undo 0 = .ok (.aload_n 0, 1) := by decide +kernel
theorem dX10_undo_1 : decode cX10_undo 1 = .ok (.getfield 43, 3) := by decide +kernel
theorem dX10_undo_4 : decode cX10_undo 4 = .ok (.aload_n 0, 1) := by decide +kernel
theorem dX10_undo_5 : decode cX10_undo 5 = .ok (.getfield 26, 3) := by decide +kernel
theorem dX10_undo_8 : decode cX10_undo 8 = .ok (.invokevirtual 154, 3) := by decide +kernel
theorem dX10_undo_11 : decode cX10_undo 11 = .ok (.ifCond .ne 5, 3) := by decide +kernel
theorem dX10_undo_14 : decode cX10_undo 14 = .ok (.iconst (-1), 1) := by decide +kernel
theorem dX10_undo_15 : decode cX10_undo 15 = .ok (.ireturn, 1) := by decide +kernel
theorem dX10_undo_16 : decode cX10_undo 16 = .ok (.aload_n 0, 1) := by decide +kernel
theorem dX10_undo_17 : decode cX10_undo 17 = .ok (.iconst 0, 1) := by decide +kernel
theorem dX10_undo_18 : decode cX10_undo 18 = .ok (.putfield 124, 3) := by decide +kernel
theorem dX10_undo_21 : decode cX10_undo 21 = .ok (.aload_n 0, 1) := by decide +kernel
theorem dX10_undo_22 : decode cX10_undo 22 = .ok (.getfield 43, 3) := by decide +kernel
theorem dX10_undo_25 : decode cX10_undo 25 = .ok (.getfield 131, 3) := by decide +kernel
theorem dX10_undo_28 : decode cX10_undo 28 = .ok (.ireturn, 1) := by decide +kernel
theorem dX10_told_0 : decode cX10_told 0 = .ok (.aload_n 0, 1) := by decide +kernel
theorem dX10_told_1 : decode cX10_told 1 = .ok (.iload_n 1, 1) := by decide +kernel
theorem dX10_told_2 : decode cX10_told 2 = .ok (.iconst 0, 1) := by decide +kernel
theorem dX10_told_3 : decode cX10_told 3 = .ok (.bipush 10, 2) := by decide +kernel
theorem dX10_told_5 : decode cX10_told 5 = .ok (.invokevirtual 158, 3) := by decide +kernel
theorem dX10_told_8 : decode cX10_told 8 = .ok (.iload_n 1, 1) := by decide +kernel
theorem dX10_told_9 : decode cX10_told 9 = .ok (.tableswitch 144 0 9 #[55, 66, 77, 88, 96, 104, 112, 120, 128, 136], 55) := by decide +kernel
theorem dX10_told_64 : decode cX10_told 64 = .ok (.aload_n 0, 1) := by decide +kernel
theorem dX10_told_65 : decode cX10_told 65 = .ok (.getfield 19, 3) := by decide +kernel
theorem dX10_told_68 : decode cX10_told 68 = .ok (.getfield 85, 3) := by decide +kernel
theorem dX10_told_71 : decode cX10_told 71 = .ok (.getfield 162, 3) := by decide +kernel
theorem dX10_told_74 : decode cX10_told 74 = .ok (.ireturn, 1) := by decide +kernel
theorem dX10_told_75 : decode cX10_told 75 = .ok (.aload_n 0, 1) := by decide +kernel
theorem dX10_told_76 : decode cX10_told 76 = .ok (.getfield 19, 3) := by decide +kernel
theorem dX10_told_79 : decode cX10_told 79 = .ok (.getfield 85, 3) := by decide +kernel
theorem dX10_told_82 : decode cX10_told 82 = .ok (.getfield 165, 3) := by decide +kernel
theorem dX10_told_85 : decode cX10_told 85 = .ok (.ireturn, 1) := by decide +kernel
theorem dX10_told_86 : decode cX10_told 86 = .ok (.aload_n 0, 1) := by decide +kernel
theorem dX10_told_87 : decode cX10_told 87 = .ok (.getfield 19, 3) := by decide +kernel
theorem dX10_told_90 : decode cX10_told 90 = .ok (.getfield 85, 3) := by decide +kernel
theorem dX10_told_93 : decode cX10_told 93 = .ok (.getfield 127, 3) := by decide +kernel
theorem dX10_told_96 : decode cX10_told 96 = .ok (.ireturn, 1) := by decide +kernel
theorem dX10_told_97 : decode cX10_told 97 = .ok (.aload_n 0, 1) := by decide +kernel
theorem dX10_told_98 : decode cX10_told 98 = .ok (.getfield 26, 3) := by decide +kernel
theorem dX10_told_101 : decode cX10_told 101 = .ok (.getfield 168, 3) := by decide +kernel
theorem dX10_told_104 : decode cX10_told 104 = .ok (.ireturn, 1) := by decide +kernel
theorem dX10_told_105 : decode cX10_told 105 = .ok (.aload_n 0, 1) := by decide +kernel
theorem dX10_told_106 : decode cX10_told 106 = .ok (.getfield 26, 3) := by decide +kernel
theorem dX10_told_109 : decode cX10_told 109 = .ok (.getfield 171, 3) := by decide +kernel
theorem dX10_told_112 : decode cX10_told 112 = .ok (.ireturn, 1) := by decide +kernel
theorem dX10_told_113 : decode cX10_told 113 = .ok (.aload_n 0, 1) := by decide +kernel
theorem dX10_told_114 : decode cX10_told 114 = .ok (.getfield 26, 3) := by decide +kernel
theorem dX10_told_117 : decode cX10_told 117 = .ok (.invokevirtual 174, 3) := by decide +kernel
theorem dX10_told_120 : decode cX10_told 120 = .ok (.ireturn, 1) := by decide +kernel
theorem dX10_told_121 : decode cX10_told 121 = .ok (.aload_n 0, 1) := by decide +kernel
theorem dX10_told_122 : decode cX10_told 122 = .ok (.getfield 26, 3) := by decide +kernel
theorem dX10_told_125 : decode cX10_told 125 = .ok (.invokevirtual 178, 3) := by decide +kernel
theorem dX10_told_128 : decode cX10_told 128 = .ok (.ireturn, 1) := by decide +kernel
theorem dX10_told_129 : decode cX10_told 129 = .ok (.aload_n 0, 1) := by decide +kernel
theorem dX10_told_130 : decode cX10_told 130 = .ok (.getfield 26, 3) := by decide +kernel
theorem dX10_told_133 : decode cX10_told 133 = .ok (.invokevirtual 181, 3) := by decide +kernel
theorem dX10_told_136 : decode cX10_told 136 = .ok (.ireturn, 1) := by decide +kernel
theorem dX10_told_137 : decode cX10_told 137 = .ok (.aload_n 0, 1) := by decide +kernel
theorem dX10_told_138 : decode cX10_told 138 = .ok (.getfield 26, 3) := by decide +kernel
theorem dX10_told_141 : decode cX10_told 141 = .ok (.invokevirtual 184, 3) := by decide +kernel
theorem dX10_told_144 : decode cX10_told 144 = .ok (.ireturn, 1) := by decide +kernel
theorem dX10_told_145 : decode cX10_told 145 = .ok (.aload_n 0, 1) := by decide +kernel
theorem dX10_told_146 : decode cX10_told 146 = .ok (.getfield 78, 3) := by decide +kernel
theorem dX10_told_149 : decode cX10_told 149 = .ok (.getfield 120, 3) := by decide +kernel
theorem dX10_told_152 : decode cX10_told 152 = .ok (.ireturn, 1) := by decide +kernel
theorem dX10_told_153 : decode cX10_told 153 = .ok (.aload_n 0, 1) := by decide +kernel
theorem dX10_told_154 : decode cX10_told 154 = .ok (.getfield 124, 3) := by decide +kernel
theorem dX10_told_157 : decode cX10_told 157 = .ok (.ireturn, 1) := by decide +kernel
theorem dX10_hat_0 : decode cX10_hat 0 = .ok (.aload_n 0, 1) := by decide +kernel
theorem dX10_hat_1 : decode cX10_hat 1 = .ok (.iload_n 1, 1) := by decide +kernel
theorem dX10_hat_2 : decode cX10_hat 2 = .ok (.aload_n 0, 1) := by decide +kernel
theorem dX10_hat_3 : decode cX10_hat 3 = .ok (.getfield 19, 3) := by decide +kernel
theorem dX10_hat_6 : decode cX10_hat 6 = .ok (.getfield 85, 3) := by decide +kernel
theorem dX10_hat_9 : decode cX10_hat 9 = .ok (.getfield 162, 3) := by decide +kernel
theorem dX10_hat_12 : decode cX10_hat 12 = .ok (.invokevirtual 187, 3) := by decide +kernel
theorem dX10_hat_15 : decode cX10_hat 15 = .ok (.aload_n 0, 1) := by decide +kernel
theorem dX10_hat_16 : decode cX10_hat 16 = .ok (.iload_n 2, 1) := by decide +kernel
