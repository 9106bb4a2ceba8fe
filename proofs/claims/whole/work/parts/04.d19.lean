theorem dX11_passes_194 : decode cX11_passes 194 = .ok (.aload_n 0, 1) := by decide +kernel
theorem dX11_passes_195 : decode cX11_passes 195 = .ok (.getfield 74, 3) := by decide +kernel
theorem dX11_passes_198 : decode cX11_passes 198 = .ok (.bipush 44, 2) := by decide +kernel
theorem dX11_passes_200 : decode cX11_passes 200 = .ok (.iload_n 2, 1) := by decide +kernel
theorem dX11_passes_201 : decode cX11_passes 201 = .ok (.iadd, 1) := by decide +kernel
theorem dX11_passes_202 : decode cX11_passes 202 = .ok (.dup2, 1) := by decide +kernel
theorem dX11_passes_203 : decode cX11_passes 203 = .ok (.iaload, 1) := by decide +kernel
theorem dX11_passes_204 : decode cX11_passes 204 = .ok (.iload_n 3, 1) := by decide +kernel
theorem dX11_passes_205 : decode cX11_passes 205 = .ok (.isub, 1) := by decide +kernel
theorem dX11_passes_206 : decode cX11_passes 206 = .ok (.iastore, 1) := by decide +kernel
theorem dX11_passes_207 : decode cX11_passes 207 = .ok (.aload_n 0, 1) := by decide +kernel
theorem dX11_passes_208 : decode cX11_passes 208 = .ok (.getfield 74, 3) := by decide +kernel
theorem dX11_passes_211 : decode cX11_passes 211 = .ok (.bipush 24, 2) := by decide +kernel
theorem dX11_passes_213 : decode cX11_passes 213 = .ok (.iload_n 1, 1) := by decide +kernel
theorem dX11_passes_214 : decode cX11_passes 214 = .ok (.iadd, 1) := by decide +kernel
theorem dX11_passes_215 : decode cX11_passes 215 = .ok (.dup2, 1) := by decide +kernel
theorem dX11_passes_216 : decode cX11_passes 216 = .ok (.iaload, 1) := by decide +kernel
theorem dX11_passes_217 : decode cX11_passes 217 = .ok (.iload_n 3, 1) := by decide +kernel
theorem dX11_passes_218 : decode cX11_passes 218 = .ok (.iadd, 1) := by decide +kernel
theorem dX11_passes_219 : decode cX11_passes 219 = .ok (.iastore, 1) := by decide +kernel
theorem dX11_passes_220 : decode cX11_passes 220 = .ok (.aload_n 0, 1) := by decide +kernel
theorem dX11_passes_221 : decode cX11_passes 221 = .ok (.getfield 74, 3) := by decide +kernel
theorem dX11_passes_224 : decode cX11_passes 224 = .ok (.bipush 12, 2) := by decide +kernel
theorem dX11_passes_226 : decode cX11_passes 226 = .ok (.iload_n 1, 1) := by decide +kernel
theorem dX11_passes_227 : decode cX11_passes 227 = .ok (.iadd, 1) := by decide +kernel
theorem dX11_passes_228 : decode cX11_passes 228 = .ok (.dup2, 1) := by decide +kernel
theorem dX11_passes_229 : decode cX11_passes 229 = .ok (.iaload, 1) := by decide +kernel
theorem dX11_passes_230 : decode cX11_passes 230 = .ok (.iconst 1, 1) := by decide +kernel
theorem dX11_passes_231 : decode cX11_passes 231 = .ok (.iadd, 1) := by decide +kernel
theorem dX11_passes_232 : decode cX11_passes 232 = .ok (.iastore, 1) := by decide +kernel
theorem dX11_passes_233 : decode cX11_passes 233 = .ok (.iinc 1 1, 3) := by decide +kernel
theorem dX11_passes_236 : decode cX11_passes 236 = .ok (.goto (-108), 3) := by decide +kernel
theorem dX11_passes_239 : decode cX11_passes 239 = .ok (.aload_n 0, 1) := by decide +kernel
theorem dX11_passes_240 : decode cX11_passes 240 = .ok (.getfield 74, 3) := by decide +kernel
theorem dX11_passes_243 : decode cX11_passes 243 = .ok (.bipush 50, 2) := by decide +kernel
theorem dX11_passes_245 : decode cX11_passes 245 = .ok (.dup2, 1) := by decide +kernel
theorem dX11_passes_246 : decode cX11_passes 246 = .ok (.iaload, 1) := by decide +kernel
theorem dX11_passes_247 : decode cX11_passes 247 = .ok (.iconst 1, 1) := by decide +kernel
theorem dX11_passes_248 : decode cX11_passes 248 = .ok (.iadd, 1) := by decide +kernel
theorem dX11_passes_249 : decode cX11_passes 249 = .ok (.iastore, 1) := by decide +kernel
theorem dX11_passes_250 : decode cX11_passes 250 = .ok (.return_, 1) := by decide +kernel
theorem dX11_book_0 : decode cX11_book 0 = .ok (.aload_n 0, 1) := by decide +kernel
theorem dX11_book_1 : decode cX11_book 1 = .ok (.iconst 0, 1) := by decide +kernel
theorem dX11_book_2 : decode cX11_book 2 = .ok (.putfield 3, 3) := by decide +kernel
theorem dX11_book_5 : decode cX11_book 5 = .ok (.aload_n 0, 1) := by decide +kernel
theorem dX11_book_6 : decode cX11_book 6 = .ok (.iload_n 1, 1) := by decide +kernel
theorem dX11_book_7 : decode cX11_book 7 = .ok (.ifCond .lt 21, 3) := by decide +kernel
theorem dX11_book_10 : decode cX11_book 10 = .ok (.iload_n 1, 1) := by decide +kernel
theorem dX11_book_11 : decode cX11_book 11 = .ok (.aload_n 0, 1) := by decide +kernel
theorem dX11_book_12 : decode cX11_book 12 = .ok (.getfield 120, 3) := by decide +kernel
theorem dX11_book_15 : decode cX11_book 15 = .ok (.if_icmp .gt 13, 3) := by decide +kernel
theorem dX11_book_18 : decode cX11_book 18 = .ok (.iload_n 1, 1) := by decide +kernel
theorem dX11_book_19 : decode cX11_book 19 = .ok (.bipush 60, 2) := by decide +kernel
theorem dX11_book_21 : decode cX11_book 21 = .ok (.if_icmp .gt 7, 3) := by decide +kernel
theorem dX11_book_24 : decode cX11_book 24 = .ok (.iconst 1, 1) := by decide +kernel
theorem dX11_book_25 : decode cX11_book 25 = .ok (.goto 4, 3) := by decide +kernel
theorem dX11_book_28 : decode cX11_book 28 = .ok (.iconst 0, 1) := by decide +kernel
theorem dX11_book_29 : decode cX11_book 29 = .ok (.iconst 1, 1) := by decide +kernel
theorem dX11_book_30 : decode cX11_book 30 = .ok (.iconst 1, 1) := by decide +kernel
theorem dX11_book_31 : decode cX11_book 31 = .ok (.invokevirtual 216, 3) := by decide +kernel
theorem dX11_book_34 : decode cX11_book 34 = .ok (.ifCond .ne 5, 3) := by decide +kernel
theorem dX11_book_37 : decode cX11_book 37 = .ok (.iconst 0, 1) := by decide +kernel
theorem dX11_book_38 : decode cX11_book 38 = .ok (.ireturn, 1) := by decide +kernel
theorem dX11_book_39 : decode cX11_book 39 = .ok (.aload_n 0, 1) := by decide +kernel
theorem dX11_book_40 : decode cX11_book 40 = .ok (.iload_n 1, 1) := by decide +kernel
theorem dX11_book_41 : decode cX11_book 41 = .ok (.invokevirtual 220, 3) := by decide +kernel
theorem dX11_book_44 : decode cX11_book 44 = .ok (.iconst 0, 1) := by decide +kernel
theorem dX11_book_45 : decode cX11_book 45 = .ok (.istore_n 2, 1) := by decide +kernel
theorem dX11_book_46 : decode cX11_book 46 = .ok (.iload_n 2, 1) := by decide +kernel
theorem dX11_book_47 : decode cX11_book 47 = .ok (.bipush 24, 2) := by decide +kernel
theorem dX11_book_49 : decode cX11_book 49 = .ok (.if_icmp .ge 16, 3) := by decide +kernel
theorem dX11_book_52 : decode cX11_book 52 = .ok (.aload_n 0, 1) := by decide +kernel
theorem dX11_book_53 : decode cX11_book 53 = .ok (.getfield 83, 3) := by decide +kernel
theorem dX11_book_56 : decode cX11_book 56 = .ok (.iload_n 2, 1) := by decide +kernel
theorem dX11_book_57 : decode cX11_book 57 = .ok (.iconst (-1), 1) := by decide +kernel
theorem dX11_book_58 : decode cX11_book 58 = .ok (.iastore, 1) := by decide +kernel
theorem dX11_book_59 : decode cX11_book 59 = .ok (.iinc 2 1, 3) := by decide +kernel
theorem dX11_book_62 : decode cX11_book 62 = .ok (.goto (-16), 3) := by decide +kernel
theorem dX11_book_65 : decode cX11_book 65 = .ok (.iconst 0, 1) := by decide +kernel
theorem dX11_book_66 : decode cX11_book 66 = .ok (.istore_n 2, 1) := by decide +kernel
theorem dX11_book_67 : decode cX11_book 67 = .ok (.aload_n 0, 1) := by decide +kernel
theorem dX11_book_68 : decode cX11_book 68 = .ok (.invokevirtual 152, 3) := by decide +kernel
theorem dX11_book_71 : decode cX11_book 71 = .ok (.ifCond .eq 112, 3) := by decide +kernel
theorem dX11_book_74 : decode cX11_book 74 = .ok (.aload_n 0, 1) := by decide +kernel
theorem dX11_book_75 : decode cX11_book 75 = .ok (.invokevirtual 224, 3) := by decide +kernel
theorem dX11_book_78 : decode cX11_book 78 = .ok (.ifCond .eq 105, 3) := by decide +kernel
theorem dX11_book_81 : decode cX11_book 81 = .ok (.aload_n 0, 1) := by decide +kernel
theorem dX11_book_82 : decode cX11_book 82 = .ok (.invokevirtual 135, 3) := by decide +kernel
theorem dX11_book_85 : decode cX11_book 85 = .ok (.pop, 1) := by decide +kernel
theorem dX11_book_86 : decode cX11_book 86 = .ok (.aload_n 0, 1) := by decide +kernel
theorem dX11_book_87 : decode cX11_book 87 = .ok (.getfield 129, 3) := by decide +kernel
theorem dX11_book_90 : decode cX11_book 90 = .ok (.istore_n 3, 1) := by decide +kernel
theorem dX11_book_91 : decode cX11_book 91 = .ok (.aload_n 0, 1) := by decide +kernel
theorem dX11_book_92 : decode cX11_book 92 = .ok (.iconst 0, 1) := by decide +kernel
theorem dX11_book_93 : decode cX11_book 93 = .ok (.bipush 23, 2) := by decide +kernel
theorem dX11_book_95 : decode cX11_book 95 = .ok (.invokevirtual 212, 3) := by decide +kernel
theorem dX11_book_98 : decode cX11_book 98 = .ok (.istore 4, 2) := by decide +kernel
theorem dX11_book_100 : decode cX11_book 100 = .ok (.aload_n 0, 1) := by decide +kernel
theorem dX11_book_101 : decode cX11_book 101 = .ok (.invokevirtual 152, 3) := by decide +kernel
theorem dX11_book_104 : decode cX11_book 104 = .ok (.ifCond .eq 20, 3) := by decide +kernel
theorem dX11_book_107 : decode cX11_book 107 = .ok (.aload_n 0, 1) := by decide +kernel
theorem dX11_book_108 : decode cX11_book 108 = .ok (.getfield 83, 3) := by decide +kernel
theorem dX11_book_111 : decode cX11_book 111 = .ok (.iload 4, 2) := by decide +kernel
theorem dX11_book_113 : decode cX11_book 113 = .ok (.iaload, 1) := by decide +kernel
theorem dX11_book_114 : decode cX11_book 114 = .ok (.iconst (-1), 1) := by decide +kernel
theorem dX11_book_115 : decode cX11_book 115 = .ok (.if_icmp .eq 9, 3) := by decide +kernel
theorem dX11_book_118 : decode cX11_book 118 = .ok (.aload_n 0, 1) := by decide +kernel
theorem dX11_book_119 : decode cX11_book 119 = .ok (.iconst 2, 1) := by decide +kernel
theorem dX11_book_120 : decode cX11_book 120 = .ok (.iload_n 3, 1) := by decide +kernel
theorem dX11_book_121 : decode cX11_book 121 = .ok (.invokevirtual 159, 3) := by decide +kernel
theorem dX11_book_124 : decode cX11_book 124 = .ok (.aload_n 0, 1) := by decide +kernel
theorem dX11_book_125 : decode cX11_book 125 = .ok (.invokevirtual 152, 3) := by decide +kernel
theorem dX11_book_128 : decode cX11_book 128 = .ok (.ifCond .eq 15, 3) := by decide +kernel
theorem dX11_book_131 : decode cX11_book 131 = .ok (.iload_n 2, 1) := by decide +kernel
theorem dX11_book_132 : decode cX11_book 132 = .ok (.bipush 8, 2) := by decide +kernel
theorem dX11_book_134 : decode cX11_book 134 = .ok (.if_icmp .ne 9, 3) := by decide +kernel
theorem dX11_book_137 : decode cX11_book 137 = .ok (.aload_n 0, 1) := by decide +kernel
theorem dX11_book_138 : decode cX11_book 138 = .ok (.iconst 3, 1) := by decide +kernel
theorem dX11_book_139 : decode cX11_book 139 = .ok (.iload_n 3, 1) := by decide +kernel
theorem dX11_book_140 : decode cX11_book 140 = .ok (.invokevirtual 159, 3) := by decide +kernel
theorem dX11_book_143 : decode cX11_book 143 = .ok (.aload_n 0, 1) := by decide +kernel
theorem dX11_book_144 : decode cX11_book 144 = .ok (.iconst 0, 1) := by decide +kernel
theorem dX11_book_145 : decode cX11_book 145 = .ok (.bipush 99, 2) := by decide +kernel
theorem dX11_book_147 : decode cX11_book 147 = .ok (.invokevirtual 212, 3) := by decide +kernel
theorem dX11_book_150 : decode cX11_book 150 = .ok (.istore 5, 2) := by decide +kernel
theorem dX11_book_152 : decode cX11_book 152 = .ok (.aload_n 0, 1) := by decide +kernel
theorem dX11_book_153 : decode cX11_book 153 = .ok (.bipush 59, 2) := by decide +kernel
theorem dX11_book_155 : decode cX11_book 155 = .ok (.invokevirtual 242, 3) := by decide +kernel
theorem dX11_book_158 : decode cX11_book 158 = .ok (.aload_n 0, 1) := by decide +kernel
theorem dX11_book_159 : decode cX11_book 159 = .ok (.invokevirtual 152, 3) := by decide +kernel
theorem dX11_book_162 : decode cX11_book 162 = .ok (.ifCond .ne 6, 3) := by decide +kernel
theorem dX11_book_165 : decode cX11_book 165 = .ok (.goto 18, 3) := by decide +kernel
theorem dX11_book_168 : decode cX11_book 168 = .ok (.aload_n 0, 1) := by decide +kernel
theorem dX11_book_169 : decode cX11_book 169 = .ok (.getfield 83, 3) := by decide +kernel
theorem dX11_book_172 : decode cX11_book 172 = .ok (.iload 4, 2) := by decide +kernel
theorem dX11_book_174 : decode cX11_book 174 = .ok (.iload 5, 2) := by decide +kernel
theorem dX11_book_176 : decode cX11_book 176 = .ok (.iastore, 1) := by decide +kernel
theorem dX11_book_177 : decode cX11_book 177 = .ok (.iinc 2 1, 3) := by decide +kernel
theorem dX11_book_180 : decode cX11_book 180 = .ok (.goto (-113), 3) := by decide +kernel
theorem dX11_book_183 : decode cX11_book 183 = .ok (.aload_n 0, 1) := by decide +kernel
theorem dX11_book_184 : decode cX11_book 184 = .ok (.iload_n 2, 1) := by decide +kernel
theorem dX11_book_185 : decode cX11_book 185 = .ok (.invokevirtual 245, 3) := by decide +kernel
theorem dX11_book_188 : decode cX11_book 188 = .ok (.istore_n 3, 1) := by decide +kernel
theorem dX11_book_189 : decode cX11_book 189 = .ok (.aload_n 0, 1) := by decide +kernel
theorem dX11_book_190 : decode cX11_book 190 = .ok (.getfield 123, 3) := by decide +kernel
theorem dX11_book_193 : decode cX11_book 193 = .ok (.iconst (-1), 1) := by decide +kernel
theorem dX11_book_194 : decode cX11_book 194 = .ok (.if_icmp .eq 5, 3) := by decide +kernel
theorem dX11_book_197 : decode cX11_book 197 = .ok (.iload_n 3, 1) := by decide +kernel
theorem dX11_book_198 : decode cX11_book 198 = .ok (.ireturn, 1) := by decide +kernel
theorem dX11_book_199 : decode cX11_book 199 = .ok (.aload_n 0, 1) := by decide +kernel
theorem dX11_book_200 : decode cX11_book 200 = .ok (.iload_n 2, 1) := by decide +kernel
theorem dX11_book_201 : decode cX11_book 201 = .ok (.putfield 191, 3) := by decide +kernel
theorem dX11_book_204 : decode cX11_book 204 = .ok (.aload_n 0, 1) := by decide +kernel
theorem dX11_book_205 : decode cX11_book 205 = .ok (.aload_n 0, 1) := by decide +kernel
theorem dX11_book_206 : decode cX11_book 206 = .ok (.getfield 83, 3) := by decide +kernel
theorem dX11_book_209 : decode cX11_book 209 = .ok (.aload_n 0, 1) := by decide +kernel
theorem dX11_book_210 : decode cX11_book 210 = .ok (.getfield 86, 3) := by decide +kernel
theorem dX11_book_213 : decode cX11_book 213 = .ok (.bipush 24, 2) := by decide +kernel
theorem dX11_book_215 : decode cX11_book 215 = .ok (.invokevirtual 184, 3) := by decide +kernel
theorem dX11_book_218 : decode cX11_book 218 = .ok (.iload_n 3, 1) := by decide +kernel
theorem dX11_book_219 : decode cX11_book 219 = .ok (.ireturn, 1) := by decide +kernel
theorem dX11_undo_0 : decode cX11_undo 0 = .ok (.aload_n 0, 1) := by decide +kernel
theorem dX11_undo_1 : decode cX11_undo 1 = .ok (.iconst 0, 1) := by decide +kernel
theorem dX11_undo_2 : decode cX11_undo 2 = .ok (.putfield 3, 3) := by decide +kernel
theorem dX11_undo_5 : decode cX11_undo 5 = .ok (.aload_n 0, 1) := by decide +kernel
theorem dX11_undo_6 : decode cX11_undo 6 = .ok (.getfield 194, 3) := by decide +kernel
theorem dX11_undo_9 : decode cX11_undo 9 = .ok (.ifCond .ne 5, 3) := by decide +kernel
theorem dX11_undo_12 : decode cX11_undo 12 = .ok (.iconst (-1), 1) := by decide +kernel
theorem dX11_undo_13 : decode cX11_undo 13 = .ok (.ireturn, 1) := by decide +kernel
theorem dX11_undo_14 : decode cX11_undo 14 = .ok (.aload_n 0, 1) := by decide +kernel
theorem dX11_undo_15 : decode cX11_undo 15 = .ok (.dup, 1) := by decide +kernel
theorem dX11_undo_16 : decode cX11_undo 16 = .ok (.getfield 194, 3) := by decide +kernel
theorem dX11_undo_19 : decode cX11_undo 19 = .ok (.iconst 1, 1) := by decide +kernel
theorem dX11_undo_20 : decode cX11_undo 20 = .ok (.isub, 1) := by decide +kernel
theorem dX11_undo_21 : decode cX11_undo 21 = .ok (.putfield 194, 3) := by decide +kernel
theorem dX11_undo_24 : decode cX11_undo 24 = .ok (.iconst 0, 1) := by decide +kernel
theorem dX11_undo_25 : decode cX11_undo 25 = .ok (.istore_n 1, 1) := by decide +kernel
theorem dX11_undo_26 : decode cX11_undo 26 = .ok (.iload_n 1, 1) := by decide +kernel
theorem dX11_undo_27 : decode cX11_undo 27 = .ok (.bipush 51, 2) := by decide +kernel
theorem dX11_undo_29 : decode cX11_undo 29 = .ok (.if_icmp .ge 29, 3) := by decide +kernel
theorem dX11_undo_32 : decode cX11_undo 32 = .ok (.aload_n 0, 1) := by decide +kernel
theorem dX11_undo_33 : decode cX11_undo 33 = .ok (.getfield 71, 3) := by decide +kernel
theorem dX11_undo_36 : decode cX11_undo 36 = .ok (.iload_n 1, 1) := by decide +kernel
theorem dX11_undo_37 : decode cX11_undo 37 = .ok (.aload_n 0, 1) := by decide +kernel
theorem dX11_undo_38 : decode cX11_undo 38 = .ok (.getfield 77, 3) := by decide +kernel
theorem dX11_undo_41 : decode cX11_undo 41 = .ok (.bipush 51, 2) := by decide +kernel
theorem dX11_undo_43 : decode cX11_undo 43 = .ok (.aload_n 0, 1) := by decide +kernel
theorem dX11_undo_44 : decode cX11_undo 44 = .ok (.getfield 194, 3) := by decide +kernel
theorem dX11_undo_47 : decode cX11_undo 47 = .ok (.imul, 1) := by decide +kernel
theorem dX11_undo_48 : decode cX11_undo 48 = .ok (.iload_n 1, 1) := by decide +kernel
theorem dX11_undo_49 : decode cX11_undo 49 = .ok (.iadd, 1) := by decide +kernel
theorem dX11_undo_50 : decode cX11_undo 50 = .ok (.iaload, 1) := by decide +kernel
theorem dX11_undo_51 : decode cX11_undo 51 = .ok (.iastore, 1) := by decide +kernel
theorem dX11_undo_52 : decode cX11_undo 52 = .ok (.iinc 1 1, 3) := by decide +kernel
theorem dX11_undo_55 : decode cX11_undo 55 = .ok (.goto (-29), 3) := by decide +kernel
theorem dX11_undo_58 : decode cX11_undo 58 = .ok (.aload_n 0, 1) := by decide +kernel
theorem dX11_undo_59 : decode cX11_undo 59 = .ok (.iconst 0, 1) := by decide +kernel
theorem dX11_undo_60 : decode cX11_undo 60 = .ok (.putfield 200, 3) := by decide +kernel
theorem dX11_undo_63 : decode cX11_undo 63 = .ok (.aload_n 0, 1) := by decide +kernel
theorem dX11_undo_64 : decode cX11_undo 64 = .ok (.getfield 194, 3) := by decide +kernel
theorem dX11_undo_67 : decode cX11_undo 67 = .ok (.ireturn, 1) := by decide +kernel
theorem dX11_sumOf_0 : decode cX11_sumOf 0 = .ok (.iconst 0, 1) := by decide +kernel
theorem dX11_sumOf_1 : decode cX11_sumOf 1 = .ok (.istore_n 3, 1) := by decide +kernel
theorem dX11_sumOf_2 : decode cX11_sumOf 2 = .ok (.iconst 0, 1) := by decide +kernel
theorem dX11_sumOf_3 : decode cX11_sumOf 3 = .ok (.istore 4, 2) := by decide +kernel
theorem dX11_sumOf_5 : decode cX11_sumOf 5 = .ok (.iload 4, 2) := by decide +kernel
theorem dX11_sumOf_7 : decode cX11_sumOf 7 = .ok (.iload_n 2, 1) := by decide +kernel
theorem dX11_sumOf_8 : decode cX11_sumOf 8 = .ok (.if_icmp .ge 21, 3) := by decide +kernel
theorem dX11_sumOf_11 : decode cX11_sumOf 11 = .ok (.iload_n 3, 1) := by decide +kernel
theorem dX11_sumOf_12 : decode cX11_sumOf 12 = .ok (.aload_n 0, 1) := by decide +kernel
theorem dX11_sumOf_13 : decode cX11_sumOf 13 = .ok (.getfield 74, 3) := by decide +kernel
theorem dX11_sumOf_16 : decode cX11_sumOf 16 = .ok (.iload_n 1, 1) := by decide +kernel
theorem dX11_sumOf_17 : decode cX11_sumOf 17 = .ok (.iload 4, 2) := by decide +kernel
theorem dX11_sumOf_19 : decode cX11_sumOf 19 = .ok (.iadd, 1) := by decide +kernel
theorem dX11_sumOf_20 : decode cX11_sumOf 20 = .ok (.iaload, 1) := by decide +kernel
theorem dX11_sumOf_21 : decode cX11_sumOf 21 = .ok (.iadd, 1) := by decide +kernel
theorem dX11_sumOf_22 : decode cX11_sumOf 22 = .ok (.istore_n 3, 1) := by decide +kernel
theorem dX11_sumOf_23 : decode cX11_sumOf 23 = .ok (.iinc 4 1, 3) := by decide +kernel
theorem dX11_sumOf_26 : decode cX11_sumOf 26 = .ok (.goto (-21), 3) := by decide +kernel
theorem dX11_sumOf_29 : decode cX11_sumOf 29 = .ok (.iload_n 3, 1) := by decide +kernel
theorem dX11_sumOf_30 : decode cX11_sumOf 30 = .ok (.ireturn, 1) := by decide +kernel
theorem dX11_livingNow_0 : decode cX11_livingNow 0 = .ok (.iconst 0, 1) := by decide +kernel
theorem dX11_livingNow_1 : decode cX11_livingNow 1 = .ok (.istore_n 1, 1) := by decide +kernel
theorem dX11_livingNow_2 : decode cX11_livingNow 2 = .ok (.iconst 0, 1) := by decide +kernel
theorem dX11_livingNow_3 : decode cX11_livingNow 3 = .ok (.istore_n 2, 1) := by decide +kernel
theorem dX11_livingNow_4 : decode cX11_livingNow 4 = .ok (.iload_n 2, 1) := by decide +kernel
theorem dX11_livingNow_5 : decode cX11_livingNow 5 = .ok (.aload_n 0, 1) := by decide +kernel
theorem dX11_livingNow_6 : decode cX11_livingNow 6 = .ok (.getfield 181, 3) := by decide +kernel
theorem dX11_livingNow_9 : decode cX11_livingNow 9 = .ok (.if_icmp .ge 23, 3) := by decide +kernel
theorem dX11_livingNow_12 : decode cX11_livingNow 12 = .ok (.iload_n 1, 1) := by decide +kernel
theorem dX11_livingNow_13 : decode cX11_livingNow 13 = .ok (.aload_n 0, 1) := by decide +kernel
theorem dX11_livingNow_14 : decode cX11_livingNow 14 = .ok (.getfield 74, 3) := by decide +kernel
theorem dX11_livingNow_17 : decode cX11_livingNow 17 = .ok (.bipush 30, 2) := by decide +kernel
theorem dX11_livingNow_19 : decode cX11_livingNow 19 = .ok (.iload_n 2, 1) := by decide +kernel
theorem dX11_livingNow_20 : decode cX11_livingNow 20 = .ok (.iadd, 1) := by decide +kernel
theorem dX11_livingNow_21 : decode cX11_livingNow 21 = .ok (.iaload, 1) := by decide +kernel
theorem dX11_livingNow_22 : decode cX11_livingNow 22 = .ok (.iload_n 2, 1) := by decide +kernel
theorem dX11_livingNow_23 : decode cX11_livingNow 23 = .ok (.ishl, 1) := by decide +kernel
theorem dX11_livingNow_24 : decode cX11_livingNow 24 = .ok (.ior, 1) := by decide +kernel
theorem dX11_livingNow_25 : decode cX11_livingNow 25 = .ok (.istore_n 1, 1) := by decide +kernel
theorem dX11_livingNow_26 : decode cX11_livingNow 26 = .ok (.iinc 2 1, 3) := by decide +kernel
theorem dX11_livingNow_29 : decode cX11_livingNow 29 = .ok (.goto (-25), 3) := by decide +kernel
theorem dX11_livingNow_32 : decode cX11_livingNow 32 = .ok (.iload_n 1, 1) := by decide +kernel
theorem dX11_livingNow_33 : decode cX11_livingNow 33 = .ok (.ireturn, 1) := by decide +kernel
theorem dX11_wornNow_0 : decode cX11_wornNow 0 = .ok (.iconst 0, 1) := by decide +kernel
theorem dX11_wornNow_1 : decode cX11_wornNow 1 = .ok (.istore_n 1, 1) := by decide +kernel
theorem dX11_wornNow_2 : decode cX11_wornNow 2 = .ok (.iconst 0, 1) := by decide +kernel
theorem dX11_wornNow_3 : decode cX11_wornNow 3 = .ok (.istore_n 2, 1) := by decide +kernel
theorem dX11_wornNow_4 : decode cX11_wornNow 4 = .ok (.iload_n 2, 1) := by decide +kernel
theorem dX11_wornNow_5 : decode cX11_wornNow 5 = .ok (.aload_n 0, 1) := by decide +kernel
theorem dX11_wornNow_6 : decode cX11_wornNow 6 = .ok (.getfield 181, 3) := by decide +kernel
theorem dX11_wornNow_9 : decode cX11_wornNow 9 = .ok (.if_icmp .ge 38, 3) := by decide +kernel
theorem dX11_wornNow_12 : decode cX11_wornNow 12 = .ok (.iload_n 1, 1) := by decide +kernel
theorem dX11_wornNow_13 : decode cX11_wornNow 13 = .ok (.aload_n 0, 1) := by decide +kernel
theorem dX11_wornNow_14 : decode cX11_wornNow 14 = .ok (.getfield 74, 3) := by decide +kernel
theorem dX11_wornNow_17 : decode cX11_wornNow 17 = .ok (.iconst 0, 1) := by decide +kernel
theorem dX11_wornNow_18 : decode cX11_wornNow 18 = .ok (.iload_n 2, 1) := by decide +kernel
theorem dX11_wornNow_19 : decode cX11_wornNow 19 = .ok (.iadd, 1) := by decide +kernel
theorem dX11_wornNow_20 : decode cX11_wornNow 20 = .ok (.iaload, 1) := by decide +kernel
theorem dX11_wornNow_21 : decode cX11_wornNow 21 = .ok (.iconst (-1), 1) := by decide +kernel
theorem dX11_wornNow_22 : decode cX11_wornNow 22 = .ok (.if_icmp .ne 7, 3) := by decide +kernel
theorem dX11_wornNow_25 : decode cX11_wornNow 25 = .ok (.iconst 0, 1) := by decide +kernel
theorem dX11_wornNow_26 : decode cX11_wornNow 26 = .ok (.goto 13, 3) := by decide +kernel
theorem dX11_wornNow_29 : decode cX11_wornNow 29 = .ok (.iconst 1, 1) := by decide +kernel
theorem dX11_wornNow_30 : decode cX11_wornNow 30 = .ok (.aload_n 0, 1) := by decide +kernel
theorem dX11_wornNow_31 : decode cX11_wornNow 31 = .ok (.getfield 74, 3) := by decide +kernel
theorem dX11_wornNow_34 : decode cX11_wornNow 34 = .ok (.iconst 0, 1) := by decide +kernel
theorem dX11_wornNow_35 : decode cX11_wornNow 35 = .ok (.iload_n 2, 1) := by decide +kernel
theorem dX11_wornNow_36 : decode cX11_wornNow 36 = .ok (.iadd, 1) := by decide +kernel
theorem dX11_wornNow_37 : decode cX11_wornNow 37 = .ok (.iaload, 1) := by decide +kernel
theorem dX11_wornNow_38 : decode cX11_wornNow 38 = .ok (.ishl, 1) := by decide +kernel
theorem dX11_wornNow_39 : decode cX11_wornNow 39 = .ok (.ior, 1) := by decide +kernel
theorem dX11_wornNow_40 : decode cX11_wornNow 40 = .ok (.istore_n 1, 1) := by decide +kernel
theorem dX11_wornNow_41 : decode cX11_wornNow 41 = .ok (.iinc 2 1, 3) := by decide +kernel
theorem dX11_wornNow_44 : decode cX11_wornNow 44 = .ok (.goto (-40), 3) := by decide +kernel
theorem dX11_wornNow_47 : decode cX11_wornNow 47 = .ok (.iload_n 1, 1) := by decide +kernel
theorem dX11_wornNow_48 : decode cX11_wornNow 48 = .ok (.ireturn, 1) := by decide +kernel
theorem dX11_atSea_0 : decode cX11_atSea 0 = .ok (.iconst 0, 1) := by decide +kernel
theorem dX11_atSea_1 : decode cX11_atSea 1 = .ok (.istore_n 1, 1) := by decide +kernel
theorem dX11_atSea_2 : decode cX11_atSea 2 = .ok (.iconst 0, 1) := by decide +kernel
theorem dX11_atSea_3 : decode cX11_atSea 3 = .ok (.istore_n 2, 1) := by decide +kernel
theorem dX11_atSea_4 : decode cX11_atSea 4 = .ok (.iload_n 2, 1) := by decide +kernel
theorem dX11_atSea_5 : decode cX11_atSea 5 = .ok (.aload_n 0, 1) := by decide +kernel
theorem dX11_atSea_6 : decode cX11_atSea 6 = .ok (.getfield 181, 3) := by decide +kernel
theorem dX11_atSea_9 : decode cX11_atSea 9 = .ok (.if_icmp .ge 32, 3) := by decide +kernel
theorem dX11_atSea_12 : decode cX11_atSea 12 = .ok (.iload_n 1, 1) := by decide +kernel
theorem dX11_atSea_13 : decode cX11_atSea 13 = .ok (.aload_n 0, 1) := by decide +kernel
theorem dX11_atSea_14 : decode cX11_atSea 14 = .ok (.getfield 74, 3) := by decide +kernel
theorem dX11_atSea_17 : decode cX11_atSea 17 = .ok (.bipush 6, 2) := by decide +kernel
theorem dX11_atSea_19 : decode cX11_atSea 19 = .ok (.iload_n 2, 1) := by decide +kernel
theorem dX11_atSea_20 : decode cX11_atSea 20 = .ok (.iadd, 1) := by decide +kernel
theorem dX11_atSea_21 : decode cX11_atSea 21 = .ok (.iaload, 1) := by decide +kernel
theorem dX11_atSea_22 : decode cX11_atSea 22 = .ok (.iconst (-1), 1) := by decide +kernel
theorem dX11_atSea_23 : decode cX11_atSea 23 = .ok (.if_icmp .ne 7, 3) := by decide +kernel
theorem dX11_atSea_26 : decode cX11_atSea 26 = .ok (.iconst 0, 1) := by decide +kernel
theorem dX11_atSea_27 : decode cX11_atSea 27 = .ok (.goto 6, 3) := by decide +kernel
theorem dX11_atSea_30 : decode cX11_atSea 30 = .ok (.iconst 1, 1) := by decide +kernel
theorem dX11_atSea_31 : decode cX11_atSea 31 = .ok (.iload_n 2, 1) := by decide +kernel
theorem dX11_atSea_32 : decode cX11_atSea 32 = .ok (.ishl, 1) := by decide +kernel
theorem dX11_atSea_33 : decode cX11_atSea 33 = .ok (.ior, 1) := by decide +kernel
theorem dX11_atSea_34 : decode cX11_atSea 34 = .ok (.istore_n 1, 1) := by decide +kernel
theorem dX11_atSea_35 : decode cX11_atSea 35 = .ok (.iinc 2 1, 3) := by decide +kernel
theorem dX11_atSea_38 : decode cX11_atSea 38 = .ok (.goto (-34), 3) := by decide +kernel
theorem dX11_atSea_41 : decode cX11_atSea 41 = .ok (.iload_n 1, 1) := by decide +kernel
theorem dX11_atSea_42 : decode cX11_atSea 42 = .ok (.ireturn, 1) := by decide +kernel
theorem dX11_told_0 : decode cX11_told 0 = .ok (.aload_n 0, 1) := by decide +kernel
theorem dX11_told_1 : decode cX11_told 1 = .ok (.iconst 0, 1) := by decide +kernel
theorem dX11_told_2 : decode cX11_told 2 = .ok (.putfield 3, 3) := by decide +kernel
theorem dX11_told_5 : decode cX11_told 5 = .ok (.aload_n 0, 1) := by decide +kernel
theorem dX11_told_6 : decode cX11_told 6 = .ok (.iload_n 1, 1) := by decide +kernel
theorem dX11_told_7 : decode cX11_told 7 = .ok (.iconst 0, 1) := by decide +kernel
theorem dX11_told_8 : decode cX11_told 8 = .ok (.bipush 10, 2) := by decide +kernel
theorem dX11_told_10 : decode cX11_told 10 = .ok (.invokestatic 383, 3) := by decide +kernel
theorem dX11_told_13 : decode cX11_told 13 = .ok (.iconst 1, 1) := by decide +kernel
theorem dX11_told_14 : decode cX11_told 14 = .ok (.iconst 1, 1) := by decide +kernel
theorem dX11_told_15 : decode cX11_told 15 = .ok (.invokevirtual 216, 3) := by decide +kernel
theorem dX11_told_18 : decode cX11_told 18 = .ok (.ifCond .ne 5, 3) := by decide +kernel
theorem dX11_told_21 : decode cX11_told 21 = .ok (.iconst 0, 1) := by decide +kernel
theorem dX11_told_22 : decode cX11_told 22 = .ok (.ireturn, 1) := by decide +kernel
theorem dX11_told_23 : decode cX11_told 23 = .ok (.aload_n 0, 1) := by decide +kernel
theorem dX11_told_24 : decode cX11_told 24 = .ok (.invokevirtual 323, 3) := by decide +kernel
theorem dX11_told_27 : decode cX11_told 27 = .ok (.iload_n 1, 1) := by decide +kernel
theorem dX11_told_28 : decode cX11_told 28 = .ok (.iconst 4, 1) := by decide +kernel
theorem dX11_told_29 : decode cX11_told 29 = .ok (.if_icmp .ge 46, 3) := by decide +kernel
theorem dX11_told_32 : decode cX11_told 32 = .ok (.iload_n 1, 1) := by decide +kernel
theorem dX11_told_33 : decode cX11_told 33 = .ok (.ifCond .ne 10, 3) := by decide +kernel
theorem dX11_told_36 : decode cX11_told 36 = .ok (.aload_n 0, 1) := by decide +kernel
theorem dX11_told_37 : decode cX11_told 37 = .ok (.getfield 175, 3) := by decide +kernel
theorem dX11_told_40 : decode cX11_told 40 = .ok (.goto 34, 3) := by decide +kernel
theorem dX11_told_43 : decode cX11_told 43 = .ok (.iload_n 1, 1) := by decide +kernel
theorem dX11_told_44 : decode cX11_told 44 = .ok (.iconst 1, 1) := by decide +kernel
theorem dX11_told_45 : decode cX11_told 45 = .ok (.if_icmp .ne 10, 3) := by decide +kernel
theorem dX11_told_48 : decode cX11_told 48 = .ok (.aload_n 0, 1) := by decide +kernel
theorem dX11_told_49 : decode cX11_told 49 = .ok (.getfield 178, 3) := by decide +kernel
theorem dX11_told_52 : decode cX11_told 52 = .ok (.goto 22, 3) := by decide +kernel
theorem dX11_told_55 : decode cX11_told 55 = .ok (.iload_n 1, 1) := by decide +kernel
theorem dX11_told_56 : decode cX11_told 56 = .ok (.iconst 2, 1) := by decide +kernel
theorem dX11_told_57 : decode cX11_told 57 = .ok (.if_icmp .ne 10, 3) := by decide +kernel
theorem dX11_told_60 : decode cX11_told 60 = .ok (.aload_n 0, 1) := by decide +kernel
theorem dX11_told_61 : decode cX11_told 61 = .ok (.getfield 181, 3) := by decide +kernel
theorem dX11_told_64 : decode cX11_told 64 = .ok (.goto 10, 3) := by decide +kernel
theorem dX11_told_67 : decode cX11_told 67 = .ok (.aload_n 0, 1) := by decide +kernel
theorem dX11_told_68 : decode cX11_told 68 = .ok (.getfield 74, 3) := by decide +kernel
theorem dX11_told_71 : decode cX11_told 71 = .ok (.bipush 50, 2) := by decide +kernel
theorem dX11_told_73 : decode cX11_told 73 = .ok (.iaload, 1) := by decide +kernel
theorem dX11_told_74 : decode cX11_told 74 = .ok (.ireturn, 1) := by decide +kernel
theorem dX11_told_75 : decode cX11_told 75 = .ok (.iload_n 1, 1) := by decide +kernel
theorem dX11_told_76 : decode cX11_told 76 = .ok (.bipush 7, 2) := by decide +kernel
theorem dX11_told_78 : decode cX11_told 78 = .ok (.if_icmp .ge 32, 3) := by decide +kernel
theorem dX11_told_81 : decode cX11_told 81 = .ok (.iload_n 1, 1) := by decide +kernel
theorem dX11_told_82 : decode cX11_told 82 = .ok (.iconst 4, 1) := by decide +kernel
theorem dX11_told_83 : decode cX11_told 83 = .ok (.if_icmp .ne 10, 3) := by decide +kernel
theorem dX11_told_86 : decode cX11_told 86 = .ok (.aload_n 0, 1) := by decide +kernel
theorem dX11_told_87 : decode cX11_told 87 = .ok (.invokevirtual 386, 3) := by decide +kernel
theorem dX11_told_90 : decode cX11_told 90 = .ok (.goto 19, 3) := by decide +kernel
theorem dX11_told_93 : decode cX11_told 93 = .ok (.iload_n 1, 1) := by decide +kernel
theorem dX11_told_94 : decode cX11_told 94 = .ok (.iconst 5, 1) := by decide +kernel
theorem dX11_told_95 : decode cX11_told 95 = .ok (.if_icmp .ne 10, 3) := by decide +kernel
theorem dX11_told_98 : decode cX11_told 98 = .ok (.aload_n 0, 1) := by decide +kernel
theorem dX11_told_99 : decode cX11_told 99 = .ok (.invokevirtual 389, 3) := by decide +kernel
theorem dX11_told_102 : decode cX11_told 102 = .ok (.goto 7, 3) := by decide +kernel
theorem dX11_told_105 : decode cX11_told 105 = .ok (.aload_n 0, 1) := by decide +kernel
theorem dX11_told_106 : decode cX11_told 106 = .ok (.invokevirtual 392, 3) := by decide +kernel
theorem dX11_told_109 : decode cX11_told 109 = .ok (.ireturn, 1) := by decide +kernel
theorem dX11_told_110 : decode cX11_told 110 = .ok (.iload_n 1, 1) := by decide +kernel
theorem dX11_told_111 : decode cX11_told 111 = .ok (.bipush 7, 2) := by decide +kernel
theorem dX11_told_113 : decode cX11_told 113 = .ok (.if_icmp .ne 16, 3) := by decide +kernel
theorem dX11_told_116 : decode cX11_told 116 = .ok (.aload_n 0, 1) := by decide +kernel
theorem dX11_told_117 : decode cX11_told 117 = .ok (.bipush 44, 2) := by decide +kernel
theorem dX11_told_119 : decode cX11_told 119 = .ok (.aload_n 0, 1) := by decide +kernel
theorem dX11_told_120 : decode cX11_told 120 = .ok (.getfield 178, 3) := by decide +kernel
theorem dX11_told_123 : decode cX11_told 123 = .ok (.invokevirtual 395, 3) := by decide +kernel
theorem dX11_told_126 : decode cX11_told 126 = .ok (.goto 39, 3) := by decide +kernel
theorem dX11_told_129 : decode cX11_told 129 = .ok (.iload_n 1, 1) := by decide +kernel
theorem dX11_told_130 : decode cX11_told 130 = .ok (.bipush 8, 2) := by decide +kernel
theorem dX11_told_132 : decode cX11_told 132 = .ok (.if_icmp .ne 16, 3) := by decide +kernel
theorem dX11_told_135 : decode cX11_told 135 = .ok (.aload_n 0, 1) := by decide +kernel
theorem dX11_told_136 : decode cX11_told 136 = .ok (.bipush 24, 2) := by decide +kernel
theorem dX11_told_138 : decode cX11_told 138 = .ok (.aload_n 0, 1) := by decide +kernel
theorem dX11_told_139 : decode cX11_told 139 = .ok (.getfield 181, 3) := by decide +kernel
theorem dX11_told_142 : decode cX11_told 142 = .ok (.invokevirtual 395, 3) := by decide +kernel
theorem dX11_told_145 : decode cX11_told 145 = .ok (.goto 20, 3) := by decide +kernel
theorem dX11_told_148 : decode cX11_told 148 = .ok (.iload_n 1, 1) := by decide +kernel
theorem dX11_told_149 : decode cX11_told 149 = .ok (.bipush 9, 2) := by decide +kernel
theorem dX11_told_151 : decode cX11_told 151 = .ok (.if_icmp .ne 10, 3) := by decide +kernel
theorem dX11_told_154 : decode cX11_told 154 = .ok (.aload_n 0, 1) := by decide +kernel
theorem dX11_told_155 : decode cX11_told 155 = .ok (.getfield 191, 3) := by decide +kernel
theorem dX11_told_158 : decode cX11_told 158 = .ok (.goto 7, 3) := by decide +kernel
theorem dX11_told_161 : decode cX11_told 161 = .ok (.aload_n 0, 1) := by decide +kernel
theorem dX11_told_162 : decode cX11_told 162 = .ok (.getfield 200, 3) := by decide +kernel
theorem dX11_told_165 : decode cX11_told 165 = .ok (.ireturn, 1) := by decide +kernel
theorem dX11_isHat_0 : decode cX11_isHat 0 = .ok (.aload_n 0, 1) := by decide +kernel
theorem dX11_isHat_1 : decode cX11_isHat 1 = .ok (.iload_n 1, 1) := by decide +kernel
theorem dX11_isHat_2 : decode cX11_isHat 2 = .ok (.iconst 0, 1) := by decide +kernel
theorem dX11_isHat_3 : decode cX11_isHat 3 = .ok (.aload_n 0, 1) := by decide +kernel
theorem dX11_isHat_4 : decode cX11_isHat 4 = .ok (.getfield 175, 3) := by decide +kernel
theorem dX11_isHat_7 : decode cX11_isHat 7 = .ok (.iconst 1, 1) := by decide +kernel
theorem dX11_isHat_8 : decode cX11_isHat 8 = .ok (.isub, 1) := by decide +kernel
theorem dX11_isHat_9 : decode cX11_isHat 9 = .ok (.invokestatic 383, 3) := by decide +kernel
theorem dX11_isHat_12 : decode cX11_isHat 12 = .ok (.iload_n 2, 1) := by decide +kernel
