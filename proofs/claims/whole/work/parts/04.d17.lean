theorem dX11_work_30 : decode cX11_work 30 = .ok (.iconst 1, 1) := by decide +kernel
theorem dX11_work_31 : decode cX11_work 31 = .ok (.iconst 1, 1) := by decide +kernel
theorem dX11_work_32 : decode cX11_work 32 = .ok (.invokevirtual 216, 3) := by decide +kernel
theorem dX11_work_35 : decode cX11_work 35 = .ok (.ifCond .ne 5, 3) := by decide +kernel
theorem dX11_work_38 : decode cX11_work 38 = .ok (.iconst 0, 1) := by decide +kernel
theorem dX11_work_39 : decode cX11_work 39 = .ok (.ireturn, 1) := by decide +kernel
theorem dX11_work_40 : decode cX11_work 40 = .ok (.aload_n 0, 1) := by decide +kernel
theorem dX11_work_41 : decode cX11_work 41 = .ok (.iload_n 1, 1) := by decide +kernel
theorem dX11_work_42 : decode cX11_work 42 = .ok (.invokevirtual 220, 3) := by decide +kernel
theorem dX11_work_45 : decode cX11_work 45 = .ok (.aload_n 0, 1) := by decide +kernel
theorem dX11_work_46 : decode cX11_work 46 = .ok (.getfield 194, 3) := by decide +kernel
theorem dX11_work_49 : decode cX11_work 49 = .ok (.bipush 16, 2) := by decide +kernel
theorem dX11_work_51 : decode cX11_work 51 = .ok (.if_icmp .ne 12, 3) := by decide +kernel
theorem dX11_work_54 : decode cX11_work 54 = .ok (.aload_n 0, 1) := by decide +kernel
theorem dX11_work_55 : decode cX11_work 55 = .ok (.iconst 0, 1) := by decide +kernel
theorem dX11_work_56 : decode cX11_work 56 = .ok (.invokevirtual 245, 3) := by decide +kernel
theorem dX11_work_59 : decode cX11_work 59 = .ok (.pop, 1) := by decide +kernel
theorem dX11_work_60 : decode cX11_work 60 = .ok (.bipush (-20), 2) := by decide +kernel
theorem dX11_work_62 : decode cX11_work 62 = .ok (.ireturn, 1) := by decide +kernel
theorem dX11_work_63 : decode cX11_work 63 = .ok (.aload_n 0, 1) := by decide +kernel
theorem dX11_work_64 : decode cX11_work 64 = .ok (.iconst 0, 1) := by decide +kernel
theorem dX11_work_65 : decode cX11_work 65 = .ok (.putfield 299, 3) := by decide +kernel
theorem dX11_work_68 : decode cX11_work 68 = .ok (.aload_n 0, 1) := by decide +kernel
theorem dX11_work_69 : decode cX11_work 69 = .ok (.invokevirtual 152, 3) := by decide +kernel
theorem dX11_work_72 : decode cX11_work 72 = .ok (.ifCond .eq 17, 3) := by decide +kernel
theorem dX11_work_75 : decode cX11_work 75 = .ok (.aload_n 0, 1) := by decide +kernel
theorem dX11_work_76 : decode cX11_work 76 = .ok (.invokevirtual 224, 3) := by decide +kernel
theorem dX11_work_79 : decode cX11_work 79 = .ok (.ifCond .eq 10, 3) := by decide +kernel
theorem dX11_work_82 : decode cX11_work 82 = .ok (.aload_n 0, 1) := by decide +kernel
theorem dX11_work_83 : decode cX11_work 83 = .ok (.invokevirtual 320, 3) := by decide +kernel
theorem dX11_work_86 : decode cX11_work 86 = .ok (.goto (-18), 3) := by decide +kernel
theorem dX11_work_89 : decode cX11_work 89 = .ok (.aload_n 0, 1) := by decide +kernel
theorem dX11_work_90 : decode cX11_work 90 = .ok (.iconst 0, 1) := by decide +kernel
theorem dX11_work_91 : decode cX11_work 91 = .ok (.invokevirtual 245, 3) := by decide +kernel
theorem dX11_work_94 : decode cX11_work 94 = .ok (.istore_n 2, 1) := by decide +kernel
theorem dX11_work_95 : decode cX11_work 95 = .ok (.aload_n 0, 1) := by decide +kernel
theorem dX11_work_96 : decode cX11_work 96 = .ok (.getfield 123, 3) := by decide +kernel
theorem dX11_work_99 : decode cX11_work 99 = .ok (.iconst (-1), 1) := by decide +kernel
theorem dX11_work_100 : decode cX11_work 100 = .ok (.if_icmp .eq 5, 3) := by decide +kernel
theorem dX11_work_103 : decode cX11_work 103 = .ok (.iload_n 2, 1) := by decide +kernel
theorem dX11_work_104 : decode cX11_work 104 = .ok (.ireturn, 1) := by decide +kernel
theorem dX11_work_105 : decode cX11_work 105 = .ok (.aload_n 0, 1) := by decide +kernel
theorem dX11_work_106 : decode cX11_work 106 = .ok (.aload_n 0, 1) := by decide +kernel
theorem dX11_work_107 : decode cX11_work 107 = .ok (.getfield 65, 3) := by decide +kernel
theorem dX11_work_110 : decode cX11_work 110 = .ok (.aload_n 0, 1) := by decide +kernel
theorem dX11_work_111 : decode cX11_work 111 = .ok (.getfield 68, 3) := by decide +kernel
theorem dX11_work_114 : decode cX11_work 114 = .ok (.aload_n 0, 1) := by decide +kernel
theorem dX11_work_115 : decode cX11_work 115 = .ok (.getfield 299, 3) := by decide +kernel
theorem dX11_work_118 : decode cX11_work 118 = .ok (.invokevirtual 184, 3) := by decide +kernel
theorem dX11_work_121 : decode cX11_work 121 = .ok (.iconst 0, 1) := by decide +kernel
theorem dX11_work_122 : decode cX11_work 122 = .ok (.istore_n 3, 1) := by decide +kernel
theorem dX11_work_123 : decode cX11_work 123 = .ok (.iload_n 3, 1) := by decide +kernel
theorem dX11_work_124 : decode cX11_work 124 = .ok (.bipush 51, 2) := by decide +kernel
theorem dX11_work_126 : decode cX11_work 126 = .ok (.if_icmp .ge 29, 3) := by decide +kernel
theorem dX11_work_129 : decode cX11_work 129 = .ok (.aload_n 0, 1) := by decide +kernel
theorem dX11_work_130 : decode cX11_work 130 = .ok (.getfield 77, 3) := by decide +kernel
theorem dX11_work_133 : decode cX11_work 133 = .ok (.bipush 51, 2) := by decide +kernel
theorem dX11_work_135 : decode cX11_work 135 = .ok (.aload_n 0, 1) := by decide +kernel
theorem dX11_work_136 : decode cX11_work 136 = .ok (.getfield 194, 3) := by decide +kernel
theorem dX11_work_139 : decode cX11_work 139 = .ok (.imul, 1) := by decide +kernel
theorem dX11_work_140 : decode cX11_work 140 = .ok (.iload_n 3, 1) := by decide +kernel
theorem dX11_work_141 : decode cX11_work 141 = .ok (.iadd, 1) := by decide +kernel
theorem dX11_work_142 : decode cX11_work 142 = .ok (.aload_n 0, 1) := by decide +kernel
theorem dX11_work_143 : decode cX11_work 143 = .ok (.getfield 71, 3) := by decide +kernel
theorem dX11_work_146 : decode cX11_work 146 = .ok (.iload_n 3, 1) := by decide +kernel
theorem dX11_work_147 : decode cX11_work 147 = .ok (.iaload, 1) := by decide +kernel
theorem dX11_work_148 : decode cX11_work 148 = .ok (.iastore, 1) := by decide +kernel
theorem dX11_work_149 : decode cX11_work 149 = .ok (.iinc 3 1, 3) := by decide +kernel
theorem dX11_work_152 : decode cX11_work 152 = .ok (.goto (-29), 3) := by decide +kernel
theorem dX11_work_155 : decode cX11_work 155 = .ok (.aload_n 0, 1) := by decide +kernel
theorem dX11_work_156 : decode cX11_work 156 = .ok (.dup, 1) := by decide +kernel
theorem dX11_work_157 : decode cX11_work 157 = .ok (.getfield 194, 3) := by decide +kernel
theorem dX11_work_160 : decode cX11_work 160 = .ok (.iconst 1, 1) := by decide +kernel
theorem dX11_work_161 : decode cX11_work 161 = .ok (.iadd, 1) := by decide +kernel
theorem dX11_work_162 : decode cX11_work 162 = .ok (.putfield 194, 3) := by decide +kernel
theorem dX11_work_165 : decode cX11_work 165 = .ok (.aload_n 0, 1) := by decide +kernel
theorem dX11_work_166 : decode cX11_work 166 = .ok (.invokevirtual 323, 3) := by decide +kernel
theorem dX11_work_169 : decode cX11_work 169 = .ok (.aload_n 0, 1) := by decide +kernel
theorem dX11_work_170 : decode cX11_work 170 = .ok (.iconst 0, 1) := by decide +kernel
theorem dX11_work_171 : decode cX11_work 171 = .ok (.putfield 326, 3) := by decide +kernel
theorem dX11_work_174 : decode cX11_work 174 = .ok (.aload_n 0, 1) := by decide +kernel
theorem dX11_work_175 : decode cX11_work 175 = .ok (.iconst 0, 1) := by decide +kernel
theorem dX11_work_176 : decode cX11_work 176 = .ok (.putfield 329, 3) := by decide +kernel
theorem dX11_work_179 : decode cX11_work 179 = .ok (.aload_n 0, 1) := by decide +kernel
theorem dX11_work_180 : decode cX11_work 180 = .ok (.iconst 0, 1) := by decide +kernel
theorem dX11_work_181 : decode cX11_work 181 = .ok (.putfield 332, 3) := by decide +kernel
theorem dX11_work_184 : decode cX11_work 184 = .ok (.aload_n 0, 1) := by decide +kernel
theorem dX11_work_185 : decode cX11_work 185 = .ok (.iconst 0, 1) := by decide +kernel
theorem dX11_work_186 : decode cX11_work 186 = .ok (.aload_n 0, 1) := by decide +kernel
theorem dX11_work_187 : decode cX11_work 187 = .ok (.getfield 299, 3) := by decide +kernel
theorem dX11_work_190 : decode cX11_work 190 = .ok (.invokevirtual 335, 3) := by decide +kernel
theorem dX11_work_193 : decode cX11_work 193 = .ok (.aload_n 0, 1) := by decide +kernel
theorem dX11_work_194 : decode cX11_work 194 = .ok (.aload_n 0, 1) := by decide +kernel
theorem dX11_work_195 : decode cX11_work 195 = .ok (.getfield 74, 3) := by decide +kernel
theorem dX11_work_198 : decode cX11_work 198 = .ok (.aload_n 0, 1) := by decide +kernel
theorem dX11_work_199 : decode cX11_work 199 = .ok (.getfield 71, 3) := by decide +kernel
theorem dX11_work_202 : decode cX11_work 202 = .ok (.bipush 51, 2) := by decide +kernel
theorem dX11_work_204 : decode cX11_work 204 = .ok (.invokevirtual 184, 3) := by decide +kernel
theorem dX11_work_207 : decode cX11_work 207 = .ok (.aload_n 0, 1) := by decide +kernel
theorem dX11_work_208 : decode cX11_work 208 = .ok (.aload_n 0, 1) := by decide +kernel
theorem dX11_work_209 : decode cX11_work 209 = .ok (.getfield 332, 3) := by decide +kernel
theorem dX11_work_212 : decode cX11_work 212 = .ok (.putfield 200, 3) := by decide +kernel
theorem dX11_work_215 : decode cX11_work 215 = .ok (.aload_n 0, 1) := by decide +kernel
theorem dX11_work_216 : decode cX11_work 216 = .ok (.getfield 329, 3) := by decide +kernel
theorem dX11_work_219 : decode cX11_work 219 = .ok (.ireturn, 1) := by decide +kernel
theorem dX11_goesSteps_0 : decode cX11_goesSteps 0 = .ok (.iload_n 1, 1) := by decide +kernel
theorem dX11_goesSteps_1 : decode cX11_goesSteps 1 = .ok (.istore_n 3, 1) := by decide +kernel
theorem dX11_goesSteps_2 : decode cX11_goesSteps 2 = .ok (.iload_n 3, 1) := by decide +kernel
theorem dX11_goesSteps_3 : decode cX11_goesSteps 3 = .ok (.iload_n 2, 1) := by decide +kernel
theorem dX11_goesSteps_4 : decode cX11_goesSteps 4 = .ok (.if_icmp .ge 149, 3) := by decide +kernel
theorem dX11_goesSteps_7 : decode cX11_goesSteps 7 = .ok (.aload_n 0, 1) := by decide +kernel
theorem dX11_goesSteps_8 : decode cX11_goesSteps 8 = .ok (.getfield 326, 3) := by decide +kernel
theorem dX11_goesSteps_11 : decode cX11_goesSteps 11 = .ok (.sipush 200, 3) := by decide +kernel
theorem dX11_goesSteps_14 : decode cX11_goesSteps 14 = .ok (.if_icmp .ge 139, 3) := by decide +kernel
theorem dX11_goesSteps_17 : decode cX11_goesSteps 17 = .ok (.aload_n 0, 1) := by decide +kernel
theorem dX11_goesSteps_18 : decode cX11_goesSteps 18 = .ok (.dup, 1) := by decide +kernel
theorem dX11_goesSteps_19 : decode cX11_goesSteps 19 = .ok (.getfield 326, 3) := by decide +kernel
theorem dX11_goesSteps_22 : decode cX11_goesSteps 22 = .ok (.iconst 1, 1) := by decide +kernel
theorem dX11_goesSteps_23 : decode cX11_goesSteps 23 = .ok (.iadd, 1) := by decide +kernel
theorem dX11_goesSteps_24 : decode cX11_goesSteps 24 = .ok (.putfield 326, 3) := by decide +kernel
theorem dX11_goesSteps_27 : decode cX11_goesSteps 27 = .ok (.aload_n 0, 1) := by decide +kernel
theorem dX11_goesSteps_28 : decode cX11_goesSteps 28 = .ok (.getfield 68, 3) := by decide +kernel
theorem dX11_goesSteps_31 : decode cX11_goesSteps 31 = .ok (.iload_n 3, 1) := by decide +kernel
theorem dX11_goesSteps_32 : decode cX11_goesSteps 32 = .ok (.iaload, 1) := by decide +kernel
theorem dX11_goesSteps_33 : decode cX11_goesSteps 33 = .ok (.bipush 7, 2) := by decide +kernel
theorem dX11_goesSteps_35 : decode cX11_goesSteps 35 = .ok (.if_icmp .ne 60, 3) := by decide +kernel
theorem dX11_goesSteps_38 : decode cX11_goesSteps 38 = .ok (.aload_n 0, 1) := by decide +kernel
theorem dX11_goesSteps_39 : decode cX11_goesSteps 39 = .ok (.getfield 68, 3) := by decide +kernel
theorem dX11_goesSteps_42 : decode cX11_goesSteps 42 = .ok (.iload_n 3, 1) := by decide +kernel
theorem dX11_goesSteps_43 : decode cX11_goesSteps 43 = .ok (.iconst 2, 1) := by decide +kernel
theorem dX11_goesSteps_44 : decode cX11_goesSteps 44 = .ok (.iadd, 1) := by decide +kernel
theorem dX11_goesSteps_45 : decode cX11_goesSteps 45 = .ok (.iaload, 1) := by decide +kernel
theorem dX11_goesSteps_46 : decode cX11_goesSteps 46 = .ok (.istore 4, 2) := by decide +kernel
theorem dX11_goesSteps_48 : decode cX11_goesSteps 48 = .ok (.iconst 0, 1) := by decide +kernel
theorem dX11_goesSteps_49 : decode cX11_goesSteps 49 = .ok (.istore 5, 2) := by decide +kernel
theorem dX11_goesSteps_51 : decode cX11_goesSteps 51 = .ok (.iload 5, 2) := by decide +kernel
theorem dX11_goesSteps_53 : decode cX11_goesSteps 53 = .ok (.aload_n 0, 1) := by decide +kernel
theorem dX11_goesSteps_54 : decode cX11_goesSteps 54 = .ok (.getfield 68, 3) := by decide +kernel
theorem dX11_goesSteps_57 : decode cX11_goesSteps 57 = .ok (.iload_n 3, 1) := by decide +kernel
theorem dX11_goesSteps_58 : decode cX11_goesSteps 58 = .ok (.iconst 1, 1) := by decide +kernel
theorem dX11_goesSteps_59 : decode cX11_goesSteps 59 = .ok (.iadd, 1) := by decide +kernel
theorem dX11_goesSteps_60 : decode cX11_goesSteps 60 = .ok (.iaload, 1) := by decide +kernel
theorem dX11_goesSteps_61 : decode cX11_goesSteps 61 = .ok (.if_icmp .ge 28, 3) := by decide +kernel
theorem dX11_goesSteps_64 : decode cX11_goesSteps 64 = .ok (.aload_n 0, 1) := by decide +kernel
theorem dX11_goesSteps_65 : decode cX11_goesSteps 65 = .ok (.getfield 326, 3) := by decide +kernel
theorem dX11_goesSteps_68 : decode cX11_goesSteps 68 = .ok (.sipush 200, 3) := by decide +kernel
theorem dX11_goesSteps_71 : decode cX11_goesSteps 71 = .ok (.if_icmp .ge 18, 3) := by decide +kernel
theorem dX11_goesSteps_74 : decode cX11_goesSteps 74 = .ok (.aload_n 0, 1) := by decide +kernel
theorem dX11_goesSteps_75 : decode cX11_goesSteps 75 = .ok (.iload_n 3, 1) := by decide +kernel
theorem dX11_goesSteps_76 : decode cX11_goesSteps 76 = .ok (.iconst 3, 1) := by decide +kernel
theorem dX11_goesSteps_77 : decode cX11_goesSteps 77 = .ok (.iadd, 1) := by decide +kernel
theorem dX11_goesSteps_78 : decode cX11_goesSteps 78 = .ok (.iload 4, 2) := by decide +kernel
theorem dX11_goesSteps_80 : decode cX11_goesSteps 80 = .ok (.invokevirtual 335, 3) := by decide +kernel
theorem dX11_goesSteps_83 : decode cX11_goesSteps 83 = .ok (.iinc 5 1, 3) := by decide +kernel
theorem dX11_goesSteps_86 : decode cX11_goesSteps 86 = .ok (.goto (-35), 3) := by decide +kernel
theorem dX11_goesSteps_89 : decode cX11_goesSteps 89 = .ok (.iload 4, 2) := by decide +kernel
theorem dX11_goesSteps_91 : decode cX11_goesSteps 91 = .ok (.istore_n 3, 1) := by decide +kernel
theorem dX11_goesSteps_92 : decode cX11_goesSteps 92 = .ok (.goto (-90), 3) := by decide +kernel
theorem dX11_goesSteps_95 : decode cX11_goesSteps 95 = .ok (.aload_n 0, 1) := by decide +kernel
theorem dX11_goesSteps_96 : decode cX11_goesSteps 96 = .ok (.aload_n 0, 1) := by decide +kernel
theorem dX11_goesSteps_97 : decode cX11_goesSteps 97 = .ok (.getfield 68, 3) := by decide +kernel
theorem dX11_goesSteps_100 : decode cX11_goesSteps 100 = .ok (.iload_n 3, 1) := by decide +kernel
theorem dX11_goesSteps_101 : decode cX11_goesSteps 101 = .ok (.iaload, 1) := by decide +kernel
theorem dX11_goesSteps_102 : decode cX11_goesSteps 102 = .ok (.aload_n 0, 1) := by decide +kernel
theorem dX11_goesSteps_103 : decode cX11_goesSteps 103 = .ok (.getfield 68, 3) := by decide +kernel
theorem dX11_goesSteps_106 : decode cX11_goesSteps 106 = .ok (.iload_n 3, 1) := by decide +kernel
theorem dX11_goesSteps_107 : decode cX11_goesSteps 107 = .ok (.iconst 1, 1) := by decide +kernel
theorem dX11_goesSteps_108 : decode cX11_goesSteps 108 = .ok (.iadd, 1) := by decide +kernel
theorem dX11_goesSteps_109 : decode cX11_goesSteps 109 = .ok (.iaload, 1) := by decide +kernel
theorem dX11_goesSteps_110 : decode cX11_goesSteps 110 = .ok (.aload_n 0, 1) := by decide +kernel
theorem dX11_goesSteps_111 : decode cX11_goesSteps 111 = .ok (.getfield 68, 3) := by decide +kernel
theorem dX11_goesSteps_114 : decode cX11_goesSteps 114 = .ok (.iload_n 3, 1) := by decide +kernel
theorem dX11_goesSteps_115 : decode cX11_goesSteps 115 = .ok (.iconst 2, 1) := by decide +kernel
theorem dX11_goesSteps_116 : decode cX11_goesSteps 116 = .ok (.iadd, 1) := by decide +kernel
theorem dX11_goesSteps_117 : decode cX11_goesSteps 117 = .ok (.iaload, 1) := by decide +kernel
theorem dX11_goesSteps_118 : decode cX11_goesSteps 118 = .ok (.invokevirtual 338, 3) := by decide +kernel
theorem dX11_goesSteps_121 : decode cX11_goesSteps 121 = .ok (.ifCond .eq 16, 3) := by decide +kernel
theorem dX11_goesSteps_124 : decode cX11_goesSteps 124 = .ok (.aload_n 0, 1) := by decide +kernel
theorem dX11_goesSteps_125 : decode cX11_goesSteps 125 = .ok (.dup, 1) := by decide +kernel
theorem dX11_goesSteps_126 : decode cX11_goesSteps 126 = .ok (.getfield 329, 3) := by decide +kernel
theorem dX11_goesSteps_129 : decode cX11_goesSteps 129 = .ok (.iconst 1, 1) := by decide +kernel
theorem dX11_goesSteps_130 : decode cX11_goesSteps 130 = .ok (.iadd, 1) := by decide +kernel
theorem dX11_goesSteps_131 : decode cX11_goesSteps 131 = .ok (.putfield 329, 3) := by decide +kernel
theorem dX11_goesSteps_134 : decode cX11_goesSteps 134 = .ok (.goto 13, 3) := by decide +kernel
theorem dX11_goesSteps_137 : decode cX11_goesSteps 137 = .ok (.aload_n 0, 1) := by decide +kernel
theorem dX11_goesSteps_138 : decode cX11_goesSteps 138 = .ok (.dup, 1) := by decide +kernel
theorem dX11_goesSteps_139 : decode cX11_goesSteps 139 = .ok (.getfield 332, 3) := by decide +kernel
theorem dX11_goesSteps_142 : decode cX11_goesSteps 142 = .ok (.iconst 1, 1) := by decide +kernel
theorem dX11_goesSteps_143 : decode cX11_goesSteps 143 = .ok (.iadd, 1) := by decide +kernel
theorem dX11_goesSteps_144 : decode cX11_goesSteps 144 = .ok (.putfield 332, 3) := by decide +kernel
theorem dX11_goesSteps_147 : decode cX11_goesSteps 147 = .ok (.iinc 3 3, 3) := by decide +kernel
theorem dX11_goesSteps_150 : decode cX11_goesSteps 150 = .ok (.goto (-148), 3) := by decide +kernel
theorem dX11_goesSteps_153 : decode cX11_goesSteps 153 = .ok (.return_, 1) := by decide +kernel
theorem dX11_take_0 : decode cX11_take 0 = .ok (.aload_n 0, 1) := by decide +kernel
theorem dX11_take_1 : decode cX11_take 1 = .ok (.aload_n 0, 1) := by decide +kernel
theorem dX11_take_2 : decode cX11_take 2 = .ok (.getfield 71, 3) := by decide +kernel
theorem dX11_take_5 : decode cX11_take 5 = .ok (.aload_n 0, 1) := by decide +kernel
theorem dX11_take_6 : decode cX11_take 6 = .ok (.getfield 74, 3) := by decide +kernel
theorem dX11_take_9 : decode cX11_take 9 = .ok (.bipush 51, 2) := by decide +kernel
theorem dX11_take_11 : decode cX11_take 11 = .ok (.invokevirtual 184, 3) := by decide +kernel
theorem dX11_take_14 : decode cX11_take 14 = .ok (.return_, 1) := by decide +kernel
theorem dX11_seaOf_0 : decode cX11_seaOf 0 = .ok (.aload_n 0, 1) := by decide +kernel
theorem dX11_seaOf_1 : decode cX11_seaOf 1 = .ok (.getfield 62, 3) := by decide +kernel
theorem dX11_seaOf_4 : decode cX11_seaOf 4 = .ok (.iconst 0, 1) := by decide +kernel
theorem dX11_seaOf_5 : decode cX11_seaOf 5 = .ok (.iload_n 1, 1) := by decide +kernel
theorem dX11_seaOf_6 : decode cX11_seaOf 6 = .ok (.iastore, 1) := by decide +kernel
theorem dX11_seaOf_7 : decode cX11_seaOf 7 = .ok (.aload_n 0, 1) := by decide +kernel
theorem dX11_seaOf_8 : decode cX11_seaOf 8 = .ok (.getfield 62, 3) := by decide +kernel
theorem dX11_seaOf_11 : decode cX11_seaOf 11 = .ok (.iconst 1, 1) := by decide +kernel
theorem dX11_seaOf_12 : decode cX11_seaOf 12 = .ok (.iload_n 2, 1) := by decide +kernel
theorem dX11_seaOf_13 : decode cX11_seaOf 13 = .ok (.iastore, 1) := by decide +kernel
theorem dX11_seaOf_14 : decode cX11_seaOf 14 = .ok (.aload_n 0, 1) := by decide +kernel
theorem dX11_seaOf_15 : decode cX11_seaOf 15 = .ok (.getfield 62, 3) := by decide +kernel
theorem dX11_seaOf_18 : decode cX11_seaOf 18 = .ok (.iconst 2, 1) := by decide +kernel
theorem dX11_seaOf_19 : decode cX11_seaOf 19 = .ok (.iload_n 3, 1) := by decide +kernel
theorem dX11_seaOf_20 : decode cX11_seaOf 20 = .ok (.iastore, 1) := by decide +kernel
theorem dX11_seaOf_21 : decode cX11_seaOf 21 = .ok (.aload_n 0, 1) := by decide +kernel
theorem dX11_seaOf_22 : decode cX11_seaOf 22 = .ok (.getfield 62, 3) := by decide +kernel
theorem dX11_seaOf_25 : decode cX11_seaOf 25 = .ok (.iconst 3, 1) := by decide +kernel
theorem dX11_seaOf_26 : decode cX11_seaOf 26 = .ok (.iload 4, 2) := by decide +kernel
theorem dX11_seaOf_28 : decode cX11_seaOf 28 = .ok (.iastore, 1) := by decide +kernel
theorem dX11_seaOf_29 : decode cX11_seaOf 29 = .ok (.aload_n 0, 1) := by decide +kernel
theorem dX11_seaOf_30 : decode cX11_seaOf 30 = .ok (.getfield 62, 3) := by decide +kernel
theorem dX11_seaOf_33 : decode cX11_seaOf 33 = .ok (.iconst 4, 1) := by decide +kernel
theorem dX11_seaOf_34 : decode cX11_seaOf 34 = .ok (.iload 5, 2) := by decide +kernel
theorem dX11_seaOf_36 : decode cX11_seaOf 36 = .ok (.iastore, 1) := by decide +kernel
theorem dX11_seaOf_37 : decode cX11_seaOf 37 = .ok (.aload_n 0, 1) := by decide +kernel
theorem dX11_seaOf_38 : decode cX11_seaOf 38 = .ok (.getfield 62, 3) := by decide +kernel
theorem dX11_seaOf_41 : decode cX11_seaOf 41 = .ok (.iconst 5, 1) := by decide +kernel
theorem dX11_seaOf_42 : decode cX11_seaOf 42 = .ok (.iload 6, 2) := by decide +kernel
theorem dX11_seaOf_44 : decode cX11_seaOf 44 = .ok (.iastore, 1) := by decide +kernel
theorem dX11_seaOf_45 : decode cX11_seaOf 45 = .ok (.aload_n 0, 1) := by decide +kernel
theorem dX11_seaOf_46 : decode cX11_seaOf 46 = .ok (.getfield 62, 3) := by decide +kernel
theorem dX11_seaOf_49 : decode cX11_seaOf 49 = .ok (.bipush 6, 2) := by decide +kernel
theorem dX11_seaOf_51 : decode cX11_seaOf 51 = .ok (.iload 7, 2) := by decide +kernel
theorem dX11_seaOf_53 : decode cX11_seaOf 53 = .ok (.iastore, 1) := by decide +kernel
theorem dX11_seaOf_54 : decode cX11_seaOf 54 = .ok (.aload_n 0, 1) := by decide +kernel
theorem dX11_seaOf_55 : decode cX11_seaOf 55 = .ok (.getfield 62, 3) := by decide +kernel
theorem dX11_seaOf_58 : decode cX11_seaOf 58 = .ok (.bipush 7, 2) := by decide +kernel
theorem dX11_seaOf_60 : decode cX11_seaOf 60 = .ok (.iload 8, 2) := by decide +kernel
theorem dX11_seaOf_62 : decode cX11_seaOf 62 = .ok (.iastore, 1) := by decide +kernel
theorem dX11_seaOf_63 : decode cX11_seaOf 63 = .ok (.aload_n 0, 1) := by decide +kernel
theorem dX11_seaOf_64 : decode cX11_seaOf 64 = .ok (.invokevirtual 342, 3) := by decide +kernel
theorem dX11_seaOf_67 : decode cX11_seaOf 67 = .ok (.ireturn, 1) := by decide +kernel
theorem dX11_angleOf_0 : decode cX11_angleOf 0 = .ok (.aload_n 0, 1) := by decide +kernel
theorem dX11_angleOf_1 : decode cX11_angleOf 1 = .ok (.getfield 35, 3) := by decide +kernel
theorem dX11_angleOf_4 : decode cX11_angleOf 4 = .ok (.iconst 2, 1) := by decide +kernel
theorem dX11_angleOf_5 : decode cX11_angleOf 5 = .ok (.iload_n 1, 1) := by decide +kernel
theorem dX11_angleOf_6 : decode cX11_angleOf 6 = .ok (.imul, 1) := by decide +kernel
theorem dX11_angleOf_7 : decode cX11_angleOf 7 = .ok (.iconst 1, 1) := by decide +kernel
theorem dX11_angleOf_8 : decode cX11_angleOf 8 = .ok (.iadd, 1) := by decide +kernel
theorem dX11_angleOf_9 : decode cX11_angleOf 9 = .ok (.iaload, 1) := by decide +kernel
theorem dX11_angleOf_10 : decode cX11_angleOf 10 = .ok (.aload_n 0, 1) := by decide +kernel
theorem dX11_angleOf_11 : decode cX11_angleOf 11 = .ok (.getfield 38, 3) := by decide +kernel
theorem dX11_angleOf_14 : decode cX11_angleOf 14 = .ok (.iconst 2, 1) := by decide +kernel
theorem dX11_angleOf_15 : decode cX11_angleOf 15 = .ok (.iload_n 2, 1) := by decide +kernel
theorem dX11_angleOf_16 : decode cX11_angleOf 16 = .ok (.imul, 1) := by decide +kernel
theorem dX11_angleOf_17 : decode cX11_angleOf 17 = .ok (.iconst 1, 1) := by decide +kernel
theorem dX11_angleOf_18 : decode cX11_angleOf 18 = .ok (.iadd, 1) := by decide +kernel
theorem dX11_angleOf_19 : decode cX11_angleOf 19 = .ok (.iaload, 1) := by decide +kernel
theorem dX11_angleOf_20 : decode cX11_angleOf 20 = .ok (.isub, 1) := by decide +kernel
theorem dX11_angleOf_21 : decode cX11_angleOf 21 = .ok (.istore_n 3, 1) := by decide +kernel
theorem dX11_angleOf_22 : decode cX11_angleOf 22 = .ok (.iload_n 3, 1) := by decide +kernel
theorem dX11_angleOf_23 : decode cX11_angleOf 23 = .ok (.ifCond .ge 8, 3) := by decide +kernel
theorem dX11_angleOf_26 : decode cX11_angleOf 26 = .ok (.iload_n 3, 1) := by decide +kernel
theorem dX11_angleOf_27 : decode cX11_angleOf 27 = .ok (.ineg, 1) := by decide +kernel
theorem dX11_angleOf_28 : decode cX11_angleOf 28 = .ok (.goto 4, 3) := by decide +kernel
theorem dX11_angleOf_31 : decode cX11_angleOf 31 = .ok (.iload_n 3, 1) := by decide +kernel
theorem dX11_angleOf_32 : decode cX11_angleOf 32 = .ok (.istore_n 3, 1) := by decide +kernel
theorem dX11_angleOf_33 : decode cX11_angleOf 33 = .ok (.iload_n 3, 1) := by decide +kernel
theorem dX11_angleOf_34 : decode cX11_angleOf 34 = .ok (.bipush 8, 2) := by decide +kernel
theorem dX11_angleOf_36 : decode cX11_angleOf 36 = .ok (.iload_n 3, 1) := by decide +kernel
theorem dX11_angleOf_37 : decode cX11_angleOf 37 = .ok (.isub, 1) := by decide +kernel
theorem dX11_angleOf_38 : decode cX11_angleOf 38 = .ok (.if_icmp .le 10, 3) := by decide +kernel
theorem dX11_angleOf_41 : decode cX11_angleOf 41 = .ok (.bipush 8, 2) := by decide +kernel
theorem dX11_angleOf_43 : decode cX11_angleOf 43 = .ok (.iload_n 3, 1) := by decide +kernel
theorem dX11_angleOf_44 : decode cX11_angleOf 44 = .ok (.isub, 1) := by decide +kernel
theorem dX11_angleOf_45 : decode cX11_angleOf 45 = .ok (.goto 4, 3) := by decide +kernel
theorem dX11_angleOf_48 : decode cX11_angleOf 48 = .ok (.iload_n 3, 1) := by decide +kernel
theorem dX11_angleOf_49 : decode cX11_angleOf 49 = .ok (.ireturn, 1) := by decide +kernel
theorem dX11_forceOf_0 : decode cX11_forceOf 0 = .ok (.aload_n 0, 1) := by decide +kernel
theorem dX11_forceOf_1 : decode cX11_forceOf 1 = .ok (.getfield 35, 3) := by decide +kernel
theorem dX11_forceOf_4 : decode cX11_forceOf 4 = .ok (.iconst 2, 1) := by decide +kernel
theorem dX11_forceOf_5 : decode cX11_forceOf 5 = .ok (.iload_n 1, 1) := by decide +kernel
theorem dX11_forceOf_6 : decode cX11_forceOf 6 = .ok (.imul, 1) := by decide +kernel
theorem dX11_forceOf_7 : decode cX11_forceOf 7 = .ok (.iaload, 1) := by decide +kernel
theorem dX11_forceOf_8 : decode cX11_forceOf 8 = .ok (.aload_n 0, 1) := by decide +kernel
theorem dX11_forceOf_9 : decode cX11_forceOf 9 = .ok (.getfield 74, 3) := by decide +kernel
theorem dX11_forceOf_12 : decode cX11_forceOf 12 = .ok (.bipush 36, 2) := by decide +kernel
theorem dX11_forceOf_14 : decode cX11_forceOf 14 = .ok (.iload_n 1, 1) := by decide +kernel
theorem dX11_forceOf_15 : decode cX11_forceOf 15 = .ok (.iadd, 1) := by decide +kernel
theorem dX11_forceOf_16 : decode cX11_forceOf 16 = .ok (.iaload, 1) := by decide +kernel
theorem dX11_forceOf_17 : decode cX11_forceOf 17 = .ok (.iadd, 1) := by decide +kernel
theorem dX11_forceOf_18 : decode cX11_forceOf 18 = .ok (.ireturn, 1) := by decide +kernel
theorem dX11_menAt_0 : decode cX11_menAt 0 = .ok (.iconst 0, 1) := by decide +kernel
theorem dX11_menAt_1 : decode cX11_menAt 1 = .ok (.istore_n 2, 1) := by decide +kernel
theorem dX11_menAt_2 : decode cX11_menAt 2 = .ok (.iconst 0, 1) := by decide +kernel
theorem dX11_menAt_3 : decode cX11_menAt 3 = .ok (.istore_n 3, 1) := by decide +kernel
theorem dX11_menAt_4 : decode cX11_menAt 4 = .ok (.iload_n 3, 1) := by decide +kernel
theorem dX11_menAt_5 : decode cX11_menAt 5 = .ok (.aload_n 0, 1) := by decide +kernel
theorem dX11_menAt_6 : decode cX11_menAt 6 = .ok (.getfield 181, 3) := by decide +kernel
theorem dX11_menAt_9 : decode cX11_menAt 9 = .ok (.if_icmp .ge 32, 3) := by decide +kernel
theorem dX11_menAt_12 : decode cX11_menAt 12 = .ok (.iload_n 2, 1) := by decide +kernel
theorem dX11_menAt_13 : decode cX11_menAt 13 = .ok (.aload_n 0, 1) := by decide +kernel
theorem dX11_menAt_14 : decode cX11_menAt 14 = .ok (.getfield 74, 3) := by decide +kernel
theorem dX11_menAt_17 : decode cX11_menAt 17 = .ok (.bipush 6, 2) := by decide +kernel
theorem dX11_menAt_19 : decode cX11_menAt 19 = .ok (.iload_n 3, 1) := by decide +kernel
theorem dX11_menAt_20 : decode cX11_menAt 20 = .ok (.iadd, 1) := by decide +kernel
theorem dX11_menAt_21 : decode cX11_menAt 21 = .ok (.iaload, 1) := by decide +kernel
theorem dX11_menAt_22 : decode cX11_menAt 22 = .ok (.iload_n 1, 1) := by decide +kernel
theorem dX11_menAt_23 : decode cX11_menAt 23 = .ok (.if_icmp .ne 9, 3) := by decide +kernel
theorem dX11_menAt_26 : decode cX11_menAt 26 = .ok (.iconst 1, 1) := by decide +kernel
theorem dX11_menAt_27 : decode cX11_menAt 27 = .ok (.iload_n 3, 1) := by decide +kernel
theorem dX11_menAt_28 : decode cX11_menAt 28 = .ok (.ishl, 1) := by decide +kernel
theorem dX11_menAt_29 : decode cX11_menAt 29 = .ok (.goto 4, 3) := by decide +kernel
theorem dX11_menAt_32 : decode cX11_menAt 32 = .ok (.iconst 0, 1) := by decide +kernel
theorem dX11_menAt_33 : decode cX11_menAt 33 = .ok (.ior, 1) := by decide +kernel
theorem dX11_menAt_34 : decode cX11_menAt 34 = .ok (.istore_n 2, 1) := by decide +kernel
theorem dX11_menAt_35 : decode cX11_menAt 35 = .ok (.iinc 3 1, 3) := by decide +kernel
theorem dX11_menAt_38 : decode cX11_menAt 38 = .ok (.goto (-34), 3) := by decide +kernel
theorem dX11_menAt_41 : decode cX11_menAt 41 = .ok (.iload_n 2, 1) := by decide +kernel
theorem dX11_menAt_42 : decode cX11_menAt 42 = .ok (.ireturn, 1) := by decide +kernel
theorem dX11_ones_0 : decode cX11_ones 0 = .ok (.iconst 0, 1) := by decide +kernel
theorem dX11_ones_1 : decode cX11_ones 1 = .ok (.istore_n 1, 1) := by decide +kernel
theorem dX11_ones_2 : decode cX11_ones 2 = .ok (.iconst 0, 1) := by decide +kernel
theorem dX11_ones_3 : decode cX11_ones 3 = .ok (.istore_n 2, 1) := by decide +kernel
theorem dX11_ones_4 : decode cX11_ones 4 = .ok (.iload_n 2, 1) := by decide +kernel
theorem dX11_ones_5 : decode cX11_ones 5 = .ok (.bipush 8, 2) := by decide +kernel
theorem dX11_ones_7 : decode cX11_ones 7 = .ok (.if_icmp .ge 17, 3) := by decide +kernel
theorem dX11_ones_10 : decode cX11_ones 10 = .ok (.iload_n 1, 1) := by decide +kernel
theorem dX11_ones_11 : decode cX11_ones 11 = .ok (.iload_n 0, 1) := by decide +kernel
theorem dX11_ones_12 : decode cX11_ones 12 = .ok (.iload_n 2, 1) := by decide +kernel
theorem dX11_ones_13 : decode cX11_ones 13 = .ok (.ishr, 1) := by decide +kernel
theorem dX11_ones_14 : decode cX11_ones 14 = .ok (.iconst 1, 1) := by decide +kernel
theorem dX11_ones_15 : decode cX11_ones 15 = .ok (.iand, 1) := by decide +kernel
theorem dX11_ones_16 : decode cX11_ones 16 = .ok (.iadd, 1) := by decide +kernel
theorem dX11_ones_17 : decode cX11_ones 17 = .ok (.istore_n 1, 1) := by decide +kernel
theorem dX11_ones_18 : decode cX11_ones 18 = .ok (.iinc 2 1, 3) := by decide +kernel
theorem dX11_ones_21 : decode cX11_ones 21 = .ok (.goto (-17), 3) := by decide +kernel
theorem dX11_ones_24 : decode cX11_ones 24 = .ok (.iload_n 1, 1) := by decide +kernel
theorem dX11_ones_25 : decode cX11_ones 25 = .ok (.ireturn, 1) := by decide +kernel
theorem dX11_seaBy_0 : decode cX11_seaBy 0 = .ok (.aload_n 0, 1) := by decide +kernel
theorem dX11_seaBy_1 : decode cX11_seaBy 1 = .ok (.getfield 74, 3) := by decide +kernel
theorem dX11_seaBy_4 : decode cX11_seaBy 4 = .ok (.bipush 6, 2) := by decide +kernel
theorem dX11_seaBy_6 : decode cX11_seaBy 6 = .ok (.iload_n 1, 1) := by decide +kernel
theorem dX11_seaBy_7 : decode cX11_seaBy 7 = .ok (.iadd, 1) := by decide +kernel
theorem dX11_seaBy_8 : decode cX11_seaBy 8 = .ok (.iaload, 1) := by decide +kernel
theorem dX11_seaBy_9 : decode cX11_seaBy 9 = .ok (.istore_n 2, 1) := by decide +kernel
theorem dX11_seaBy_10 : decode cX11_seaBy 10 = .ok (.aload_n 0, 1) := by decide +kernel
theorem dX11_seaBy_11 : decode cX11_seaBy 11 = .ok (.getfield 74, 3) := by decide +kernel
theorem dX11_seaBy_14 : decode cX11_seaBy 14 = .ok (.iconst 0, 1) := by decide +kernel
theorem dX11_seaBy_15 : decode cX11_seaBy 15 = .ok (.iload_n 1, 1) := by decide +kernel
theorem dX11_seaBy_16 : decode cX11_seaBy 16 = .ok (.iadd, 1) := by decide +kernel
theorem dX11_seaBy_17 : decode cX11_seaBy 17 = .ok (.iaload, 1) := by decide +kernel
theorem dX11_seaBy_18 : decode cX11_seaBy 18 = .ok (.istore_n 3, 1) := by decide +kernel
theorem dX11_seaBy_19 : decode cX11_seaBy 19 = .ok (.iload_n 2, 1) := by decide +kernel
theorem dX11_seaBy_20 : decode cX11_seaBy 20 = .ok (.iconst (-1), 1) := by decide +kernel
theorem dX11_seaBy_21 : decode cX11_seaBy 21 = .ok (.if_icmp .eq 8, 3) := by decide +kernel
theorem dX11_seaBy_24 : decode cX11_seaBy 24 = .ok (.iload_n 3, 1) := by decide +kernel
theorem dX11_seaBy_25 : decode cX11_seaBy 25 = .ok (.iconst (-1), 1) := by decide +kernel
theorem dX11_seaBy_26 : decode cX11_seaBy 26 = .ok (.if_icmp .ne 7, 3) := by decide +kernel
theorem dX11_seaBy_29 : decode cX11_seaBy 29 = .ok (.iconst 0, 1) := by decide +kernel
theorem dX11_seaBy_30 : decode cX11_seaBy 30 = .ok (.goto 68, 3) := by decide +kernel
theorem dX11_seaBy_33 : decode cX11_seaBy 33 = .ok (.aload_n 0, 1) := by decide +kernel
theorem dX11_seaBy_34 : decode cX11_seaBy 34 = .ok (.aload_n 0, 1) := by decide +kernel
theorem dX11_seaBy_35 : decode cX11_seaBy 35 = .ok (.iload_n 3, 1) := by decide +kernel
theorem dX11_seaBy_36 : decode cX11_seaBy 36 = .ok (.invokevirtual 345, 3) := by decide +kernel
theorem dX11_seaBy_39 : decode cX11_seaBy 39 = .ok (.aload_n 0, 1) := by decide +kernel
theorem dX11_seaBy_40 : decode cX11_seaBy 40 = .ok (.iload_n 3, 1) := by decide +kernel
theorem dX11_seaBy_41 : decode cX11_seaBy 41 = .ok (.iload_n 2, 1) := by decide +kernel
theorem dX11_seaBy_42 : decode cX11_seaBy 42 = .ok (.invokevirtual 348, 3) := by decide +kernel
theorem dX11_seaBy_45 : decode cX11_seaBy 45 = .ok (.aload_n 0, 1) := by decide +kernel
theorem dX11_seaBy_46 : decode cX11_seaBy 46 = .ok (.getfield 74, 3) := by decide +kernel
theorem dX11_seaBy_49 : decode cX11_seaBy 49 = .ok (.bipush 12, 2) := by decide +kernel
theorem dX11_seaBy_51 : decode cX11_seaBy 51 = .ok (.iload_n 1, 1) := by decide +kernel
theorem dX11_seaBy_52 : decode cX11_seaBy 52 = .ok (.iadd, 1) := by decide +kernel
theorem dX11_seaBy_53 : decode cX11_seaBy 53 = .ok (.iaload, 1) := by decide +kernel
theorem dX11_seaBy_54 : decode cX11_seaBy 54 = .ok (.aload_n 0, 1) := by decide +kernel
theorem dX11_seaBy_55 : decode cX11_seaBy 55 = .ok (.getfield 41, 3) := by decide +kernel
theorem dX11_seaBy_58 : decode cX11_seaBy 58 = .ok (.iload_n 1, 1) := by decide +kernel
theorem dX11_seaBy_59 : decode cX11_seaBy 59 = .ok (.iaload, 1) := by decide +kernel
theorem dX11_seaBy_60 : decode cX11_seaBy 60 = .ok (.aload_n 0, 1) := by decide +kernel
theorem dX11_seaBy_61 : decode cX11_seaBy 61 = .ok (.getfield 74, 3) := by decide +kernel
theorem dX11_seaBy_64 : decode cX11_seaBy 64 = .ok (.bipush 18, 2) := by decide +kernel
theorem dX11_seaBy_66 : decode cX11_seaBy 66 = .ok (.iload_n 1, 1) := by decide +kernel
theorem dX11_seaBy_67 : decode cX11_seaBy 67 = .ok (.iadd, 1) := by decide +kernel
theorem dX11_seaBy_68 : decode cX11_seaBy 68 = .ok (.iaload, 1) := by decide +kernel
theorem dX11_seaBy_69 : decode cX11_seaBy 69 = .ok (.aload_n 0, 1) := by decide +kernel
theorem dX11_seaBy_70 : decode cX11_seaBy 70 = .ok (.getfield 74, 3) := by decide +kernel
theorem dX11_seaBy_73 : decode cX11_seaBy 73 = .ok (.bipush 44, 2) := by decide +kernel
theorem dX11_seaBy_75 : decode cX11_seaBy 75 = .ok (.iload_n 2, 1) := by decide +kernel
theorem dX11_seaBy_76 : decode cX11_seaBy 76 = .ok (.iadd, 1) := by decide +kernel
theorem dX11_seaBy_77 : decode cX11_seaBy 77 = .ok (.iaload, 1) := by decide +kernel
theorem dX11_seaBy_78 : decode cX11_seaBy 78 = .ok (.aload_n 0, 1) := by decide +kernel
theorem dX11_seaBy_79 : decode cX11_seaBy 79 = .ok (.iload_n 2, 1) := by decide +kernel
theorem dX11_seaBy_80 : decode cX11_seaBy 80 = .ok (.invokevirtual 351, 3) := by decide +kernel
theorem dX11_seaBy_83 : decode cX11_seaBy 83 = .ok (.invokestatic 354, 3) := by decide +kernel
theorem dX11_seaBy_86 : decode cX11_seaBy 86 = .ok (.iconst 1, 1) := by decide +kernel
theorem dX11_seaBy_87 : decode cX11_seaBy 87 = .ok (.isub, 1) := by decide +kernel
theorem dX11_seaBy_88 : decode cX11_seaBy 88 = .ok (.aload_n 0, 1) := by decide +kernel
