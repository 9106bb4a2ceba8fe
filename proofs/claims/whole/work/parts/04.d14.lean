theorem dX11_isMore_10 : decode cX11_isMore 10 = .ok (.getfield 132, 3) := by decide +kernel
theorem dX11_isMore_13 : decode cX11_isMore 13 = .ok (.if_icmp .ge 7, 3) := by decide +kernel
theorem dX11_isMore_16 : decode cX11_isMore 16 = .ok (.iconst 1, 1) := by decide +kernel
theorem dX11_isMore_17 : decode cX11_isMore 17 = .ok (.goto 4, 3) := by decide +kernel
theorem dX11_isMore_20 : decode cX11_isMore 20 = .ok (.iconst 0, 1) := by decide +kernel
theorem dX11_isMore_21 : decode cX11_isMore 21 = .ok (.ireturn, 1) := by decide +kernel
theorem dX11_begins_0 : decode cX11_begins 0 = .ok (.aload_n 0, 1) := by decide +kernel
theorem dX11_begins_1 : decode cX11_begins 1 = .ok (.iconst 0, 1) := by decide +kernel
theorem dX11_begins_2 : decode cX11_begins 2 = .ok (.putfield 120, 3) := by decide +kernel
theorem dX11_begins_5 : decode cX11_begins 5 = .ok (.aload_n 0, 1) := by decide +kernel
theorem dX11_begins_6 : decode cX11_begins 6 = .ok (.iconst (-1), 1) := by decide +kernel
theorem dX11_begins_7 : decode cX11_begins 7 = .ok (.putfield 17, 3) := by decide +kernel
theorem dX11_begins_10 : decode cX11_begins 10 = .ok (.aload_n 0, 1) := by decide +kernel
theorem dX11_begins_11 : decode cX11_begins 11 = .ok (.iload_n 1, 1) := by decide +kernel
theorem dX11_begins_12 : decode cX11_begins 12 = .ok (.putfield 132, 3) := by decide +kernel
theorem dX11_begins_15 : decode cX11_begins 15 = .ok (.aload_n 0, 1) := by decide +kernel
theorem dX11_begins_16 : decode cX11_begins 16 = .ok (.iconst 0, 1) := by decide +kernel
theorem dX11_begins_17 : decode cX11_begins 17 = .ok (.putfield 129, 3) := by decide +kernel
theorem dX11_begins_20 : decode cX11_begins 20 = .ok (.aload_n 0, 1) := by decide +kernel
theorem dX11_begins_21 : decode cX11_begins 21 = .ok (.iconst (-1), 1) := by decide +kernel
theorem dX11_begins_22 : decode cX11_begins 22 = .ok (.putfield 123, 3) := by decide +kernel
theorem dX11_begins_25 : decode cX11_begins 25 = .ok (.aload_n 0, 1) := by decide +kernel
theorem dX11_begins_26 : decode cX11_begins 26 = .ok (.iconst 0, 1) := by decide +kernel
theorem dX11_begins_27 : decode cX11_begins 27 = .ok (.putfield 163, 3) := by decide +kernel
theorem dX11_begins_30 : decode cX11_begins 30 = .ok (.return_, 1) := by decide +kernel
theorem dX11_result_0 : decode cX11_result 0 = .ok (.aload_n 0, 1) := by decide +kernel
theorem dX11_result_1 : decode cX11_result 1 = .ok (.aload_n 0, 1) := by decide +kernel
theorem dX11_result_2 : decode cX11_result 2 = .ok (.getfield 123, 3) := by decide +kernel
theorem dX11_result_5 : decode cX11_result 5 = .ok (.putfield 17, 3) := by decide +kernel
theorem dX11_result_8 : decode cX11_result 8 = .ok (.aload_n 0, 1) := by decide +kernel
theorem dX11_result_9 : decode cX11_result 9 = .ok (.invokevirtual 152, 3) := by decide +kernel
theorem dX11_result_12 : decode cX11_result 12 = .ok (.ifCond .eq 7, 3) := by decide +kernel
theorem dX11_result_15 : decode cX11_result 15 = .ok (.iload_n 1, 1) := by decide +kernel
theorem dX11_result_16 : decode cX11_result 16 = .ok (.goto 10, 3) := by decide +kernel
theorem dX11_result_19 : decode cX11_result 19 = .ok (.aload_n 0, 1) := by decide +kernel
theorem dX11_result_20 : decode cX11_result 20 = .ok (.getfield 126, 3) := by decide +kernel
theorem dX11_result_23 : decode cX11_result 23 = .ok (.bipush 10, 2) := by decide +kernel
theorem dX11_result_25 : decode cX11_result 25 = .ok (.isub, 1) := by decide +kernel
theorem dX11_result_26 : decode cX11_result 26 = .ok (.ireturn, 1) := by decide +kernel
theorem dX11_fault_0 : decode cX11_fault 0 = .ok (.aload_n 0, 1) := by decide +kernel
theorem dX11_fault_1 : decode cX11_fault 1 = .ok (.iconst 0, 1) := by decide +kernel
theorem dX11_fault_2 : decode cX11_fault 2 = .ok (.putfield 3, 3) := by decide +kernel
theorem dX11_fault_5 : decode cX11_fault 5 = .ok (.aload_n 0, 1) := by decide +kernel
theorem dX11_fault_6 : decode cX11_fault 6 = .ok (.getfield 17, 3) := by decide +kernel
theorem dX11_fault_9 : decode cX11_fault 9 = .ok (.ireturn, 1) := by decide +kernel
theorem dX11_copies_0 : decode cX11_copies 0 = .ok (.iconst 0, 1) := by decide +kernel
theorem dX11_copies_1 : decode cX11_copies 1 = .ok (.istore 4, 2) := by decide +kernel
theorem dX11_copies_3 : decode cX11_copies 3 = .ok (.iload 4, 2) := by decide +kernel
theorem dX11_copies_5 : decode cX11_copies 5 = .ok (.iload_n 3, 1) := by decide +kernel
theorem dX11_copies_6 : decode cX11_copies 6 = .ok (.if_icmp .ge 17, 3) := by decide +kernel
theorem dX11_copies_9 : decode cX11_copies 9 = .ok (.aload_n 2, 1) := by decide +kernel
theorem dX11_copies_10 : decode cX11_copies 10 = .ok (.iload 4, 2) := by decide +kernel
theorem dX11_copies_12 : decode cX11_copies 12 = .ok (.aload_n 1, 1) := by decide +kernel
theorem dX11_copies_13 : decode cX11_copies 13 = .ok (.iload 4, 2) := by decide +kernel
theorem dX11_copies_15 : decode cX11_copies 15 = .ok (.iaload, 1) := by decide +kernel
theorem dX11_copies_16 : decode cX11_copies 16 = .ok (.iastore, 1) := by decide +kernel
theorem dX11_copies_17 : decode cX11_copies 17 = .ok (.iinc 4 1, 3) := by decide +kernel
theorem dX11_copies_20 : decode cX11_copies 20 = .ok (.goto (-17), 3) := by decide +kernel
theorem dX11_copies_23 : decode cX11_copies 23 = .ok (.return_, 1) := by decide +kernel
theorem dX11_clears_0 : decode cX11_clears 0 = .ok (.aload_n 0, 1) := by decide +kernel
theorem dX11_clears_1 : decode cX11_clears 1 = .ok (.iconst 0, 1) := by decide +kernel
theorem dX11_clears_2 : decode cX11_clears 2 = .ok (.putfield 166, 3) := by decide +kernel
theorem dX11_clears_5 : decode cX11_clears 5 = .ok (.aload_n 0, 1) := by decide +kernel
theorem dX11_clears_6 : decode cX11_clears 6 = .ok (.iconst 0, 1) := by decide +kernel
theorem dX11_clears_7 : decode cX11_clears 7 = .ok (.putfield 169, 3) := by decide +kernel
theorem dX11_clears_10 : decode cX11_clears 10 = .ok (.aload_n 0, 1) := by decide +kernel
theorem dX11_clears_11 : decode cX11_clears 11 = .ok (.iconst 0, 1) := by decide +kernel
theorem dX11_clears_12 : decode cX11_clears 12 = .ok (.putfield 172, 3) := by decide +kernel
theorem dX11_clears_15 : decode cX11_clears 15 = .ok (.iconst 0, 1) := by decide +kernel
theorem dX11_clears_16 : decode cX11_clears 16 = .ok (.istore_n 1, 1) := by decide +kernel
theorem dX11_clears_17 : decode cX11_clears 17 = .ok (.iload_n 1, 1) := by decide +kernel
theorem dX11_clears_18 : decode cX11_clears 18 = .ok (.bipush 6, 2) := by decide +kernel
theorem dX11_clears_20 : decode cX11_clears 20 = .ok (.if_icmp .ge 16, 3) := by decide +kernel
theorem dX11_clears_23 : decode cX11_clears 23 = .ok (.aload_n 0, 1) := by decide +kernel
theorem dX11_clears_24 : decode cX11_clears 24 = .ok (.getfield 32, 3) := by decide +kernel
theorem dX11_clears_27 : decode cX11_clears 27 = .ok (.iload_n 1, 1) := by decide +kernel
theorem dX11_clears_28 : decode cX11_clears 28 = .ok (.iconst (-1), 1) := by decide +kernel
theorem dX11_clears_29 : decode cX11_clears 29 = .ok (.iastore, 1) := by decide +kernel
theorem dX11_clears_30 : decode cX11_clears 30 = .ok (.iinc 1 1, 3) := by decide +kernel
theorem dX11_clears_33 : decode cX11_clears 33 = .ok (.goto (-16), 3) := by decide +kernel
theorem dX11_clears_36 : decode cX11_clears 36 = .ok (.return_, 1) := by decide +kernel
theorem dX11_sets_0 : decode cX11_sets 0 = .ok (.aload_n 0, 1) := by decide +kernel
theorem dX11_sets_1 : decode cX11_sets 1 = .ok (.aload_n 0, 1) := by decide +kernel
theorem dX11_sets_2 : decode cX11_sets 2 = .ok (.getfield 166, 3) := by decide +kernel
theorem dX11_sets_5 : decode cX11_sets 5 = .ok (.putfield 175, 3) := by decide +kernel
theorem dX11_sets_8 : decode cX11_sets 8 = .ok (.aload_n 0, 1) := by decide +kernel
theorem dX11_sets_9 : decode cX11_sets 9 = .ok (.aload_n 0, 1) := by decide +kernel
theorem dX11_sets_10 : decode cX11_sets 10 = .ok (.getfield 169, 3) := by decide +kernel
theorem dX11_sets_13 : decode cX11_sets 13 = .ok (.putfield 178, 3) := by decide +kernel
theorem dX11_sets_16 : decode cX11_sets 16 = .ok (.aload_n 0, 1) := by decide +kernel
theorem dX11_sets_17 : decode cX11_sets 17 = .ok (.aload_n 0, 1) := by decide +kernel
theorem dX11_sets_18 : decode cX11_sets 18 = .ok (.getfield 172, 3) := by decide +kernel
theorem dX11_sets_21 : decode cX11_sets 21 = .ok (.putfield 181, 3) := by decide +kernel
theorem dX11_sets_24 : decode cX11_sets 24 = .ok (.aload_n 0, 1) := by decide +kernel
theorem dX11_sets_25 : decode cX11_sets 25 = .ok (.aload_n 0, 1) := by decide +kernel
theorem dX11_sets_26 : decode cX11_sets 26 = .ok (.getfield 23, 3) := by decide +kernel
theorem dX11_sets_29 : decode cX11_sets 29 = .ok (.aload_n 0, 1) := by decide +kernel
theorem dX11_sets_30 : decode cX11_sets 30 = .ok (.getfield 35, 3) := by decide +kernel
theorem dX11_sets_33 : decode cX11_sets 33 = .ok (.bipush 16, 2) := by decide +kernel
theorem dX11_sets_35 : decode cX11_sets 35 = .ok (.invokevirtual 184, 3) := by decide +kernel
theorem dX11_sets_38 : decode cX11_sets 38 = .ok (.aload_n 0, 1) := by decide +kernel
theorem dX11_sets_39 : decode cX11_sets 39 = .ok (.aload_n 0, 1) := by decide +kernel
theorem dX11_sets_40 : decode cX11_sets 40 = .ok (.getfield 26, 3) := by decide +kernel
theorem dX11_sets_43 : decode cX11_sets 43 = .ok (.aload_n 0, 1) := by decide +kernel
theorem dX11_sets_44 : decode cX11_sets 44 = .ok (.getfield 38, 3) := by decide +kernel
theorem dX11_sets_47 : decode cX11_sets 47 = .ok (.bipush 12, 2) := by decide +kernel
theorem dX11_sets_49 : decode cX11_sets 49 = .ok (.invokevirtual 184, 3) := by decide +kernel
theorem dX11_sets_52 : decode cX11_sets 52 = .ok (.aload_n 0, 1) := by decide +kernel
theorem dX11_sets_53 : decode cX11_sets 53 = .ok (.aload_n 0, 1) := by decide +kernel
theorem dX11_sets_54 : decode cX11_sets 54 = .ok (.getfield 29, 3) := by decide +kernel
theorem dX11_sets_57 : decode cX11_sets 57 = .ok (.aload_n 0, 1) := by decide +kernel
theorem dX11_sets_58 : decode cX11_sets 58 = .ok (.getfield 41, 3) := by decide +kernel
theorem dX11_sets_61 : decode cX11_sets 61 = .ok (.bipush 6, 2) := by decide +kernel
theorem dX11_sets_63 : decode cX11_sets 63 = .ok (.invokevirtual 184, 3) := by decide +kernel
theorem dX11_sets_66 : decode cX11_sets 66 = .ok (.aload_n 0, 1) := by decide +kernel
theorem dX11_sets_67 : decode cX11_sets 67 = .ok (.aload_n 0, 1) := by decide +kernel
theorem dX11_sets_68 : decode cX11_sets 68 = .ok (.getfield 32, 3) := by decide +kernel
theorem dX11_sets_71 : decode cX11_sets 71 = .ok (.aload_n 0, 1) := by decide +kernel
theorem dX11_sets_72 : decode cX11_sets 72 = .ok (.getfield 44, 3) := by decide +kernel
theorem dX11_sets_75 : decode cX11_sets 75 = .ok (.bipush 6, 2) := by decide +kernel
theorem dX11_sets_77 : decode cX11_sets 77 = .ok (.invokevirtual 184, 3) := by decide +kernel
theorem dX11_sets_80 : decode cX11_sets 80 = .ok (.aload_n 0, 1) := by decide +kernel
theorem dX11_sets_81 : decode cX11_sets 81 = .ok (.iconst 0, 1) := by decide +kernel
theorem dX11_sets_82 : decode cX11_sets 82 = .ok (.putfield 188, 3) := by decide +kernel
theorem dX11_sets_85 : decode cX11_sets 85 = .ok (.aload_n 0, 1) := by decide +kernel
theorem dX11_sets_86 : decode cX11_sets 86 = .ok (.iconst 0, 1) := by decide +kernel
theorem dX11_sets_87 : decode cX11_sets 87 = .ok (.putfield 191, 3) := by decide +kernel
theorem dX11_sets_90 : decode cX11_sets 90 = .ok (.aload_n 0, 1) := by decide +kernel
theorem dX11_sets_91 : decode cX11_sets 91 = .ok (.iconst 0, 1) := by decide +kernel
theorem dX11_sets_92 : decode cX11_sets 92 = .ok (.putfield 194, 3) := by decide +kernel
theorem dX11_sets_95 : decode cX11_sets 95 = .ok (.aload_n 0, 1) := by decide +kernel
theorem dX11_sets_96 : decode cX11_sets 96 = .ok (.iconst 0, 1) := by decide +kernel
theorem dX11_sets_97 : decode cX11_sets 97 = .ok (.putfield 197, 3) := by decide +kernel
theorem dX11_sets_100 : decode cX11_sets 100 = .ok (.aload_n 0, 1) := by decide +kernel
theorem dX11_sets_101 : decode cX11_sets 101 = .ok (.iconst 0, 1) := by decide +kernel
theorem dX11_sets_102 : decode cX11_sets 102 = .ok (.putfield 200, 3) := by decide +kernel
theorem dX11_sets_105 : decode cX11_sets 105 = .ok (.iconst 0, 1) := by decide +kernel
theorem dX11_sets_106 : decode cX11_sets 106 = .ok (.istore_n 1, 1) := by decide +kernel
theorem dX11_sets_107 : decode cX11_sets 107 = .ok (.iload_n 1, 1) := by decide +kernel
theorem dX11_sets_108 : decode cX11_sets 108 = .ok (.bipush 24, 2) := by decide +kernel
theorem dX11_sets_110 : decode cX11_sets 110 = .ok (.if_icmp .ge 16, 3) := by decide +kernel
theorem dX11_sets_113 : decode cX11_sets 113 = .ok (.aload_n 0, 1) := by decide +kernel
theorem dX11_sets_114 : decode cX11_sets 114 = .ok (.getfield 86, 3) := by decide +kernel
theorem dX11_sets_117 : decode cX11_sets 117 = .ok (.iload_n 1, 1) := by decide +kernel
theorem dX11_sets_118 : decode cX11_sets 118 = .ok (.iconst (-1), 1) := by decide +kernel
theorem dX11_sets_119 : decode cX11_sets 119 = .ok (.iastore, 1) := by decide +kernel
theorem dX11_sets_120 : decode cX11_sets 120 = .ok (.iinc 1 1, 3) := by decide +kernel
theorem dX11_sets_123 : decode cX11_sets 123 = .ok (.goto (-16), 3) := by decide +kernel
theorem dX11_sets_126 : decode cX11_sets 126 = .ok (.iconst 0, 1) := by decide +kernel
theorem dX11_sets_127 : decode cX11_sets 127 = .ok (.istore_n 1, 1) := by decide +kernel
theorem dX11_sets_128 : decode cX11_sets 128 = .ok (.iload_n 1, 1) := by decide +kernel
theorem dX11_sets_129 : decode cX11_sets 129 = .ok (.bipush 51, 2) := by decide +kernel
theorem dX11_sets_131 : decode cX11_sets 131 = .ok (.if_icmp .ge 16, 3) := by decide +kernel
theorem dX11_sets_134 : decode cX11_sets 134 = .ok (.aload_n 0, 1) := by decide +kernel
theorem dX11_sets_135 : decode cX11_sets 135 = .ok (.getfield 71, 3) := by decide +kernel
theorem dX11_sets_138 : decode cX11_sets 138 = .ok (.iload_n 1, 1) := by decide +kernel
theorem dX11_sets_139 : decode cX11_sets 139 = .ok (.iconst 0, 1) := by decide +kernel
theorem dX11_sets_140 : decode cX11_sets 140 = .ok (.iastore, 1) := by decide +kernel
theorem dX11_sets_141 : decode cX11_sets 141 = .ok (.iinc 1 1, 3) := by decide +kernel
theorem dX11_sets_144 : decode cX11_sets 144 = .ok (.goto (-16), 3) := by decide +kernel
theorem dX11_sets_147 : decode cX11_sets 147 = .ok (.iconst 0, 1) := by decide +kernel
theorem dX11_sets_148 : decode cX11_sets 148 = .ok (.istore_n 1, 1) := by decide +kernel
theorem dX11_sets_149 : decode cX11_sets 149 = .ok (.iload_n 1, 1) := by decide +kernel
theorem dX11_sets_150 : decode cX11_sets 150 = .ok (.bipush 6, 2) := by decide +kernel
theorem dX11_sets_152 : decode cX11_sets 152 = .ok (.if_icmp .ge 50, 3) := by decide +kernel
theorem dX11_sets_155 : decode cX11_sets 155 = .ok (.aload_n 0, 1) := by decide +kernel
theorem dX11_sets_156 : decode cX11_sets 156 = .ok (.getfield 71, 3) := by decide +kernel
theorem dX11_sets_159 : decode cX11_sets 159 = .ok (.iconst 0, 1) := by decide +kernel
theorem dX11_sets_160 : decode cX11_sets 160 = .ok (.iload_n 1, 1) := by decide +kernel
theorem dX11_sets_161 : decode cX11_sets 161 = .ok (.iadd, 1) := by decide +kernel
theorem dX11_sets_162 : decode cX11_sets 162 = .ok (.iconst (-1), 1) := by decide +kernel
theorem dX11_sets_163 : decode cX11_sets 163 = .ok (.iastore, 1) := by decide +kernel
theorem dX11_sets_164 : decode cX11_sets 164 = .ok (.aload_n 0, 1) := by decide +kernel
theorem dX11_sets_165 : decode cX11_sets 165 = .ok (.getfield 71, 3) := by decide +kernel
theorem dX11_sets_168 : decode cX11_sets 168 = .ok (.bipush 6, 2) := by decide +kernel
theorem dX11_sets_170 : decode cX11_sets 170 = .ok (.iload_n 1, 1) := by decide +kernel
theorem dX11_sets_171 : decode cX11_sets 171 = .ok (.iadd, 1) := by decide +kernel
theorem dX11_sets_172 : decode cX11_sets 172 = .ok (.iconst (-1), 1) := by decide +kernel
theorem dX11_sets_173 : decode cX11_sets 173 = .ok (.iastore, 1) := by decide +kernel
theorem dX11_sets_174 : decode cX11_sets 174 = .ok (.aload_n 0, 1) := by decide +kernel
theorem dX11_sets_175 : decode cX11_sets 175 = .ok (.getfield 71, 3) := by decide +kernel
theorem dX11_sets_178 : decode cX11_sets 178 = .ok (.bipush 30, 2) := by decide +kernel
theorem dX11_sets_180 : decode cX11_sets 180 = .ok (.iload_n 1, 1) := by decide +kernel
theorem dX11_sets_181 : decode cX11_sets 181 = .ok (.iadd, 1) := by decide +kernel
theorem dX11_sets_182 : decode cX11_sets 182 = .ok (.iload_n 1, 1) := by decide +kernel
theorem dX11_sets_183 : decode cX11_sets 183 = .ok (.aload_n 0, 1) := by decide +kernel
theorem dX11_sets_184 : decode cX11_sets 184 = .ok (.getfield 181, 3) := by decide +kernel
theorem dX11_sets_187 : decode cX11_sets 187 = .ok (.if_icmp .ge 7, 3) := by decide +kernel
theorem dX11_sets_190 : decode cX11_sets 190 = .ok (.iconst 1, 1) := by decide +kernel
theorem dX11_sets_191 : decode cX11_sets 191 = .ok (.goto 4, 3) := by decide +kernel
theorem dX11_sets_194 : decode cX11_sets 194 = .ok (.iconst 0, 1) := by decide +kernel
theorem dX11_sets_195 : decode cX11_sets 195 = .ok (.iastore, 1) := by decide +kernel
theorem dX11_sets_196 : decode cX11_sets 196 = .ok (.iinc 1 1, 3) := by decide +kernel
theorem dX11_sets_199 : decode cX11_sets 199 = .ok (.goto (-50), 3) := by decide +kernel
theorem dX11_sets_202 : decode cX11_sets 202 = .ok (.iconst 0, 1) := by decide +kernel
theorem dX11_sets_203 : decode cX11_sets 203 = .ok (.istore_n 1, 1) := by decide +kernel
theorem dX11_sets_204 : decode cX11_sets 204 = .ok (.iload_n 1, 1) := by decide +kernel
theorem dX11_sets_205 : decode cX11_sets 205 = .ok (.aload_n 0, 1) := by decide +kernel
theorem dX11_sets_206 : decode cX11_sets 206 = .ok (.getfield 178, 3) := by decide +kernel
theorem dX11_sets_209 : decode cX11_sets 209 = .ok (.if_icmp .ge 26, 3) := by decide +kernel
theorem dX11_sets_212 : decode cX11_sets 212 = .ok (.aload_n 0, 1) := by decide +kernel
theorem dX11_sets_213 : decode cX11_sets 213 = .ok (.getfield 71, 3) := by decide +kernel
theorem dX11_sets_216 : decode cX11_sets 216 = .ok (.bipush 44, 2) := by decide +kernel
theorem dX11_sets_218 : decode cX11_sets 218 = .ok (.iload_n 1, 1) := by decide +kernel
theorem dX11_sets_219 : decode cX11_sets 219 = .ok (.iadd, 1) := by decide +kernel
theorem dX11_sets_220 : decode cX11_sets 220 = .ok (.aload_n 0, 1) := by decide +kernel
theorem dX11_sets_221 : decode cX11_sets 221 = .ok (.getfield 38, 3) := by decide +kernel
theorem dX11_sets_224 : decode cX11_sets 224 = .ok (.iconst 2, 1) := by decide +kernel
theorem dX11_sets_225 : decode cX11_sets 225 = .ok (.iload_n 1, 1) := by decide +kernel
theorem dX11_sets_226 : decode cX11_sets 226 = .ok (.imul, 1) := by decide +kernel
theorem dX11_sets_227 : decode cX11_sets 227 = .ok (.iaload, 1) := by decide +kernel
theorem dX11_sets_228 : decode cX11_sets 228 = .ok (.iastore, 1) := by decide +kernel
theorem dX11_sets_229 : decode cX11_sets 229 = .ok (.iinc 1 1, 3) := by decide +kernel
theorem dX11_sets_232 : decode cX11_sets 232 = .ok (.goto (-28), 3) := by decide +kernel
theorem dX11_sets_235 : decode cX11_sets 235 = .ok (.return_, 1) := by decide +kernel
theorem dX11_isRow_0 : decode cX11_isRow 0 = .ok (.iload_n 0, 1) := by decide +kernel
theorem dX11_isRow_1 : decode cX11_isRow 1 = .ok (.ldc 203, 2) := by decide +kernel
theorem dX11_isRow_3 : decode cX11_isRow 3 = .ok (.invokestatic 204, 3) := by decide +kernel
theorem dX11_isRow_6 : decode cX11_isRow 6 = .ok (.if_icmp .eq 30, 3) := by decide +kernel
theorem dX11_isRow_9 : decode cX11_isRow 9 = .ok (.iload_n 0, 1) := by decide +kernel
theorem dX11_isRow_10 : decode cX11_isRow 10 = .ok (.ldc 208, 2) := by decide +kernel
theorem dX11_isRow_12 : decode cX11_isRow 12 = .ok (.invokestatic 204, 3) := by decide +kernel
theorem dX11_isRow_15 : decode cX11_isRow 15 = .ok (.if_icmp .eq 21, 3) := by decide +kernel
theorem dX11_isRow_18 : decode cX11_isRow 18 = .ok (.iload_n 0, 1) := by decide +kernel
theorem dX11_isRow_19 : decode cX11_isRow 19 = .ok (.ldc 209, 2) := by decide +kernel
theorem dX11_isRow_21 : decode cX11_isRow 21 = .ok (.invokestatic 204, 3) := by decide +kernel
theorem dX11_isRow_24 : decode cX11_isRow 24 = .ok (.if_icmp .eq 12, 3) := by decide +kernel
theorem dX11_isRow_27 : decode cX11_isRow 27 = .ok (.iload_n 0, 1) := by decide +kernel
theorem dX11_isRow_28 : decode cX11_isRow 28 = .ok (.ldc 211, 2) := by decide +kernel
theorem dX11_isRow_30 : decode cX11_isRow 30 = .ok (.invokestatic 204, 3) := by decide +kernel
theorem dX11_isRow_33 : decode cX11_isRow 33 = .ok (.if_icmp .ne 7, 3) := by decide +kernel
theorem dX11_isRow_36 : decode cX11_isRow 36 = .ok (.iconst 1, 1) := by decide +kernel
theorem dX11_isRow_37 : decode cX11_isRow 37 = .ok (.goto 4, 3) := by decide +kernel
theorem dX11_isRow_40 : decode cX11_isRow 40 = .ok (.iconst 0, 1) := by decide +kernel
theorem dX11_isRow_41 : decode cX11_isRow 41 = .ok (.ireturn, 1) := by decide +kernel
theorem dX11_isFull_0 : decode cX11_isFull 0 = .ok (.iload_n 1, 1) := by decide +kernel
theorem dX11_isFull_1 : decode cX11_isFull 1 = .ok (.ldc 203, 2) := by decide +kernel
theorem dX11_isFull_3 : decode cX11_isFull 3 = .ok (.invokestatic 204, 3) := by decide +kernel
theorem dX11_isFull_6 : decode cX11_isFull 6 = .ok (.if_icmp .ne 12, 3) := by decide +kernel
theorem dX11_isFull_9 : decode cX11_isFull 9 = .ok (.aload_n 0, 1) := by decide +kernel
theorem dX11_isFull_10 : decode cX11_isFull 10 = .ok (.getfield 166, 3) := by decide +kernel
theorem dX11_isFull_13 : decode cX11_isFull 13 = .ok (.bipush 8, 2) := by decide +kernel
theorem dX11_isFull_15 : decode cX11_isFull 15 = .ok (.if_icmp .eq 39, 3) := by decide +kernel
theorem dX11_isFull_18 : decode cX11_isFull 18 = .ok (.iload_n 1, 1) := by decide +kernel
theorem dX11_isFull_19 : decode cX11_isFull 19 = .ok (.ldc 208, 2) := by decide +kernel
theorem dX11_isFull_21 : decode cX11_isFull 21 = .ok (.invokestatic 204, 3) := by decide +kernel
theorem dX11_isFull_24 : decode cX11_isFull 24 = .ok (.if_icmp .ne 12, 3) := by decide +kernel
theorem dX11_isFull_27 : decode cX11_isFull 27 = .ok (.aload_n 0, 1) := by decide +kernel
theorem dX11_isFull_28 : decode cX11_isFull 28 = .ok (.getfield 169, 3) := by decide +kernel
theorem dX11_isFull_31 : decode cX11_isFull 31 = .ok (.bipush 6, 2) := by decide +kernel
theorem dX11_isFull_33 : decode cX11_isFull 33 = .ok (.if_icmp .eq 21, 3) := by decide +kernel
theorem dX11_isFull_36 : decode cX11_isFull 36 = .ok (.iload_n 1, 1) := by decide +kernel
theorem dX11_isFull_37 : decode cX11_isFull 37 = .ok (.ldc 209, 2) := by decide +kernel
theorem dX11_isFull_39 : decode cX11_isFull 39 = .ok (.invokestatic 204, 3) := by decide +kernel
theorem dX11_isFull_42 : decode cX11_isFull 42 = .ok (.if_icmp .ne 16, 3) := by decide +kernel
theorem dX11_isFull_45 : decode cX11_isFull 45 = .ok (.aload_n 0, 1) := by decide +kernel
theorem dX11_isFull_46 : decode cX11_isFull 46 = .ok (.getfield 172, 3) := by decide +kernel
theorem dX11_isFull_49 : decode cX11_isFull 49 = .ok (.bipush 6, 2) := by decide +kernel
theorem dX11_isFull_51 : decode cX11_isFull 51 = .ok (.if_icmp .ne 7, 3) := by decide +kernel
theorem dX11_isFull_54 : decode cX11_isFull 54 = .ok (.iconst 1, 1) := by decide +kernel
theorem dX11_isFull_55 : decode cX11_isFull 55 = .ok (.goto 4, 3) := by decide +kernel
theorem dX11_isFull_58 : decode cX11_isFull 58 = .ok (.iconst 0, 1) := by decide +kernel
theorem dX11_isFull_59 : decode cX11_isFull 59 = .ok (.ireturn, 1) := by decide +kernel
theorem dX11_readRow_0 : decode cX11_readRow 0 = .ok (.iload_n 1, 1) := by decide +kernel
theorem dX11_readRow_1 : decode cX11_readRow 1 = .ok (.ldc 203, 2) := by decide +kernel
theorem dX11_readRow_3 : decode cX11_readRow 3 = .ok (.invokestatic 204, 3) := by decide +kernel
theorem dX11_readRow_6 : decode cX11_readRow 6 = .ok (.if_icmp .ne 54, 3) := by decide +kernel
theorem dX11_readRow_9 : decode cX11_readRow 9 = .ok (.aload_n 0, 1) := by decide +kernel
theorem dX11_readRow_10 : decode cX11_readRow 10 = .ok (.getfield 23, 3) := by decide +kernel
theorem dX11_readRow_13 : decode cX11_readRow 13 = .ok (.iconst 2, 1) := by decide +kernel
theorem dX11_readRow_14 : decode cX11_readRow 14 = .ok (.aload_n 0, 1) := by decide +kernel
theorem dX11_readRow_15 : decode cX11_readRow 15 = .ok (.getfield 166, 3) := by decide +kernel
theorem dX11_readRow_18 : decode cX11_readRow 18 = .ok (.imul, 1) := by decide +kernel
theorem dX11_readRow_19 : decode cX11_readRow 19 = .ok (.aload_n 0, 1) := by decide +kernel
theorem dX11_readRow_20 : decode cX11_readRow 20 = .ok (.iconst 1, 1) := by decide +kernel
theorem dX11_readRow_21 : decode cX11_readRow 21 = .ok (.bipush 12, 2) := by decide +kernel
theorem dX11_readRow_23 : decode cX11_readRow 23 = .ok (.invokevirtual 212, 3) := by decide +kernel
theorem dX11_readRow_26 : decode cX11_readRow 26 = .ok (.iastore, 1) := by decide +kernel
theorem dX11_readRow_27 : decode cX11_readRow 27 = .ok (.aload_n 0, 1) := by decide +kernel
theorem dX11_readRow_28 : decode cX11_readRow 28 = .ok (.getfield 23, 3) := by decide +kernel
theorem dX11_readRow_31 : decode cX11_readRow 31 = .ok (.iconst 2, 1) := by decide +kernel
theorem dX11_readRow_32 : decode cX11_readRow 32 = .ok (.aload_n 0, 1) := by decide +kernel
theorem dX11_readRow_33 : decode cX11_readRow 33 = .ok (.getfield 166, 3) := by decide +kernel
theorem dX11_readRow_36 : decode cX11_readRow 36 = .ok (.imul, 1) := by decide +kernel
theorem dX11_readRow_37 : decode cX11_readRow 37 = .ok (.iconst 1, 1) := by decide +kernel
theorem dX11_readRow_38 : decode cX11_readRow 38 = .ok (.iadd, 1) := by decide +kernel
theorem dX11_readRow_39 : decode cX11_readRow 39 = .ok (.aload_n 0, 1) := by decide +kernel
theorem dX11_readRow_40 : decode cX11_readRow 40 = .ok (.iconst 0, 1) := by decide +kernel
theorem dX11_readRow_41 : decode cX11_readRow 41 = .ok (.bipush 7, 2) := by decide +kernel
theorem dX11_readRow_43 : decode cX11_readRow 43 = .ok (.invokevirtual 212, 3) := by decide +kernel
theorem dX11_readRow_46 : decode cX11_readRow 46 = .ok (.iastore, 1) := by decide +kernel
theorem dX11_readRow_47 : decode cX11_readRow 47 = .ok (.aload_n 0, 1) := by decide +kernel
theorem dX11_readRow_48 : decode cX11_readRow 48 = .ok (.dup, 1) := by decide +kernel
theorem dX11_readRow_49 : decode cX11_readRow 49 = .ok (.getfield 166, 3) := by decide +kernel
theorem dX11_readRow_52 : decode cX11_readRow 52 = .ok (.iconst 1, 1) := by decide +kernel
theorem dX11_readRow_53 : decode cX11_readRow 53 = .ok (.iadd, 1) := by decide +kernel
theorem dX11_readRow_54 : decode cX11_readRow 54 = .ok (.putfield 166, 3) := by decide +kernel
theorem dX11_readRow_57 : decode cX11_readRow 57 = .ok (.goto 140, 3) := by decide +kernel
theorem dX11_readRow_60 : decode cX11_readRow 60 = .ok (.iload_n 1, 1) := by decide +kernel
theorem dX11_readRow_61 : decode cX11_readRow 61 = .ok (.ldc 208, 2) := by decide +kernel
theorem dX11_readRow_63 : decode cX11_readRow 63 = .ok (.invokestatic 204, 3) := by decide +kernel
theorem dX11_readRow_66 : decode cX11_readRow 66 = .ok (.if_icmp .ne 55, 3) := by decide +kernel
theorem dX11_readRow_69 : decode cX11_readRow 69 = .ok (.aload_n 0, 1) := by decide +kernel
theorem dX11_readRow_70 : decode cX11_readRow 70 = .ok (.getfield 26, 3) := by decide +kernel
theorem dX11_readRow_73 : decode cX11_readRow 73 = .ok (.iconst 2, 1) := by decide +kernel
theorem dX11_readRow_74 : decode cX11_readRow 74 = .ok (.aload_n 0, 1) := by decide +kernel
theorem dX11_readRow_75 : decode cX11_readRow 75 = .ok (.getfield 169, 3) := by decide +kernel
theorem dX11_readRow_78 : decode cX11_readRow 78 = .ok (.imul, 1) := by decide +kernel
theorem dX11_readRow_79 : decode cX11_readRow 79 = .ok (.aload_n 0, 1) := by decide +kernel
theorem dX11_readRow_80 : decode cX11_readRow 80 = .ok (.iconst 0, 1) := by decide +kernel
theorem dX11_readRow_81 : decode cX11_readRow 81 = .ok (.sipush 999, 3) := by decide +kernel
theorem dX11_readRow_84 : decode cX11_readRow 84 = .ok (.invokevirtual 212, 3) := by decide +kernel
theorem dX11_readRow_87 : decode cX11_readRow 87 = .ok (.iastore, 1) := by decide +kernel
theorem dX11_readRow_88 : decode cX11_readRow 88 = .ok (.aload_n 0, 1) := by decide +kernel
theorem dX11_readRow_89 : decode cX11_readRow 89 = .ok (.getfield 26, 3) := by decide +kernel
theorem dX11_readRow_92 : decode cX11_readRow 92 = .ok (.iconst 2, 1) := by decide +kernel
theorem dX11_readRow_93 : decode cX11_readRow 93 = .ok (.aload_n 0, 1) := by decide +kernel
theorem dX11_readRow_94 : decode cX11_readRow 94 = .ok (.getfield 169, 3) := by decide +kernel
theorem dX11_readRow_97 : decode cX11_readRow 97 = .ok (.imul, 1) := by decide +kernel
theorem dX11_readRow_98 : decode cX11_readRow 98 = .ok (.iconst 1, 1) := by decide +kernel
theorem dX11_readRow_99 : decode cX11_readRow 99 = .ok (.iadd, 1) := by decide +kernel
theorem dX11_readRow_100 : decode cX11_readRow 100 = .ok (.aload_n 0, 1) := by decide +kernel
theorem dX11_readRow_101 : decode cX11_readRow 101 = .ok (.iconst 0, 1) := by decide +kernel
theorem dX11_readRow_102 : decode cX11_readRow 102 = .ok (.bipush 7, 2) := by decide +kernel
theorem dX11_readRow_104 : decode cX11_readRow 104 = .ok (.invokevirtual 212, 3) := by decide +kernel
theorem dX11_readRow_107 : decode cX11_readRow 107 = .ok (.iastore, 1) := by decide +kernel
theorem dX11_readRow_108 : decode cX11_readRow 108 = .ok (.aload_n 0, 1) := by decide +kernel
theorem dX11_readRow_109 : decode cX11_readRow 109 = .ok (.dup, 1) := by decide +kernel
theorem dX11_readRow_110 : decode cX11_readRow 110 = .ok (.getfield 169, 3) := by decide +kernel
theorem dX11_readRow_113 : decode cX11_readRow 113 = .ok (.iconst 1, 1) := by decide +kernel
theorem dX11_readRow_114 : decode cX11_readRow 114 = .ok (.iadd, 1) := by decide +kernel
theorem dX11_readRow_115 : decode cX11_readRow 115 = .ok (.putfield 169, 3) := by decide +kernel
theorem dX11_readRow_118 : decode cX11_readRow 118 = .ok (.goto 79, 3) := by decide +kernel
theorem dX11_readRow_121 : decode cX11_readRow 121 = .ok (.iload_n 1, 1) := by decide +kernel
theorem dX11_readRow_122 : decode cX11_readRow 122 = .ok (.ldc 209, 2) := by decide +kernel
theorem dX11_readRow_124 : decode cX11_readRow 124 = .ok (.invokestatic 204, 3) := by decide +kernel
theorem dX11_readRow_127 : decode cX11_readRow 127 = .ok (.if_icmp .ne 32, 3) := by decide +kernel
theorem dX11_readRow_130 : decode cX11_readRow 130 = .ok (.aload_n 0, 1) := by decide +kernel
theorem dX11_readRow_131 : decode cX11_readRow 131 = .ok (.getfield 29, 3) := by decide +kernel
theorem dX11_readRow_134 : decode cX11_readRow 134 = .ok (.aload_n 0, 1) := by decide +kernel
theorem dX11_readRow_135 : decode cX11_readRow 135 = .ok (.getfield 172, 3) := by decide +kernel
theorem dX11_readRow_138 : decode cX11_readRow 138 = .ok (.aload_n 0, 1) := by decide +kernel
theorem dX11_readRow_139 : decode cX11_readRow 139 = .ok (.iconst 1, 1) := by decide +kernel
theorem dX11_readRow_140 : decode cX11_readRow 140 = .ok (.bipush 99, 2) := by decide +kernel
theorem dX11_readRow_142 : decode cX11_readRow 142 = .ok (.invokevirtual 212, 3) := by decide +kernel
theorem dX11_readRow_145 : decode cX11_readRow 145 = .ok (.iastore, 1) := by decide +kernel
theorem dX11_readRow_146 : decode cX11_readRow 146 = .ok (.aload_n 0, 1) := by decide +kernel
theorem dX11_readRow_147 : decode cX11_readRow 147 = .ok (.dup, 1) := by decide +kernel
theorem dX11_readRow_148 : decode cX11_readRow 148 = .ok (.getfield 172, 3) := by decide +kernel
theorem dX11_readRow_151 : decode cX11_readRow 151 = .ok (.iconst 1, 1) := by decide +kernel
theorem dX11_readRow_152 : decode cX11_readRow 152 = .ok (.iadd, 1) := by decide +kernel
theorem dX11_readRow_153 : decode cX11_readRow 153 = .ok (.putfield 172, 3) := by decide +kernel
theorem dX11_readRow_156 : decode cX11_readRow 156 = .ok (.goto 41, 3) := by decide +kernel
theorem dX11_readRow_159 : decode cX11_readRow 159 = .ok (.aload_n 0, 1) := by decide +kernel
theorem dX11_readRow_160 : decode cX11_readRow 160 = .ok (.iconst 0, 1) := by decide +kernel
theorem dX11_readRow_161 : decode cX11_readRow 161 = .ok (.aload_n 0, 1) := by decide +kernel
theorem dX11_readRow_162 : decode cX11_readRow 162 = .ok (.getfield 172, 3) := by decide +kernel
theorem dX11_readRow_165 : decode cX11_readRow 165 = .ok (.iconst 1, 1) := by decide +kernel
theorem dX11_readRow_166 : decode cX11_readRow 166 = .ok (.isub, 1) := by decide +kernel
theorem dX11_readRow_167 : decode cX11_readRow 167 = .ok (.invokevirtual 212, 3) := by decide +kernel
theorem dX11_readRow_170 : decode cX11_readRow 170 = .ok (.istore_n 2, 1) := by decide +kernel
theorem dX11_readRow_171 : decode cX11_readRow 171 = .ok (.aload_n 0, 1) := by decide +kernel
theorem dX11_readRow_172 : decode cX11_readRow 172 = .ok (.iconst 0, 1) := by decide +kernel
theorem dX11_readRow_173 : decode cX11_readRow 173 = .ok (.aload_n 0, 1) := by decide +kernel
theorem dX11_readRow_174 : decode cX11_readRow 174 = .ok (.getfield 172, 3) := by decide +kernel
theorem dX11_readRow_177 : decode cX11_readRow 177 = .ok (.iconst 1, 1) := by decide +kernel
theorem dX11_readRow_178 : decode cX11_readRow 178 = .ok (.isub, 1) := by decide +kernel
theorem dX11_readRow_179 : decode cX11_readRow 179 = .ok (.invokevirtual 212, 3) := by decide +kernel
theorem dX11_readRow_182 : decode cX11_readRow 182 = .ok (.istore_n 3, 1) := by decide +kernel
theorem dX11_readRow_183 : decode cX11_readRow 183 = .ok (.aload_n 0, 1) := by decide +kernel
theorem dX11_readRow_184 : decode cX11_readRow 184 = .ok (.invokevirtual 152, 3) := by decide +kernel
theorem dX11_readRow_187 : decode cX11_readRow 187 = .ok (.ifCond .eq 10, 3) := by decide +kernel
theorem dX11_readRow_190 : decode cX11_readRow 190 = .ok (.aload_n 0, 1) := by decide +kernel
theorem dX11_readRow_191 : decode cX11_readRow 191 = .ok (.getfield 32, 3) := by decide +kernel
theorem dX11_readRow_194 : decode cX11_readRow 194 = .ok (.iload_n 2, 1) := by decide +kernel
theorem dX11_readRow_195 : decode cX11_readRow 195 = .ok (.iload_n 3, 1) := by decide +kernel
theorem dX11_readRow_196 : decode cX11_readRow 196 = .ok (.iastore, 1) := by decide +kernel
theorem dX11_readRow_197 : decode cX11_readRow 197 = .ok (.return_, 1) := by decide +kernel
theorem dX11_coast_0 : decode cX11_coast 0 = .ok (.aload_n 0, 1) := by decide +kernel
theorem dX11_coast_1 : decode cX11_coast 1 = .ok (.iconst 0, 1) := by decide +kernel
theorem dX11_coast_2 : decode cX11_coast 2 = .ok (.putfield 3, 3) := by decide +kernel
theorem dX11_coast_5 : decode cX11_coast 5 = .ok (.aload_n 0, 1) := by decide +kernel
theorem dX11_coast_6 : decode cX11_coast 6 = .ok (.iload_n 1, 1) := by decide +kernel
theorem dX11_coast_7 : decode cX11_coast 7 = .ok (.ifCond .lt 15, 3) := by decide +kernel
theorem dX11_coast_10 : decode cX11_coast 10 = .ok (.iload_n 1, 1) := by decide +kernel
theorem dX11_coast_11 : decode cX11_coast 11 = .ok (.aload_n 0, 1) := by decide +kernel
theorem dX11_coast_12 : decode cX11_coast 12 = .ok (.getfield 120, 3) := by decide +kernel
theorem dX11_coast_15 : decode cX11_coast 15 = .ok (.if_icmp .gt 7, 3) := by decide +kernel
theorem dX11_coast_18 : decode cX11_coast 18 = .ok (.iconst 1, 1) := by decide +kernel
theorem dX11_coast_19 : decode cX11_coast 19 = .ok (.goto 4, 3) := by decide +kernel
theorem dX11_coast_22 : decode cX11_coast 22 = .ok (.iconst 0, 1) := by decide +kernel
theorem dX11_coast_23 : decode cX11_coast 23 = .ok (.iconst 1, 1) := by decide +kernel
theorem dX11_coast_24 : decode cX11_coast 24 = .ok (.iconst 1, 1) := by decide +kernel
theorem dX11_coast_25 : decode cX11_coast 25 = .ok (.invokevirtual 216, 3) := by decide +kernel
theorem dX11_coast_28 : decode cX11_coast 28 = .ok (.ifCond .ne 5, 3) := by decide +kernel
theorem dX11_coast_31 : decode cX11_coast 31 = .ok (.iconst 0, 1) := by decide +kernel
theorem dX11_coast_32 : decode cX11_coast 32 = .ok (.ireturn, 1) := by decide +kernel
theorem dX11_coast_33 : decode cX11_coast 33 = .ok (.aload_n 0, 1) := by decide +kernel
theorem dX11_coast_34 : decode cX11_coast 34 = .ok (.iload_n 1, 1) := by decide +kernel
theorem dX11_coast_35 : decode cX11_coast 35 = .ok (.invokevirtual 220, 3) := by decide +kernel
