theorem dX11_two_90 : decode cX11_two 90 = .ok (.iload 8, 2) := by decide +kernel
theorem dX11_two_92 : decode cX11_two 92 = .ok (.iload_n 1, 1) := by decide +kernel
theorem dX11_two_93 : decode cX11_two 93 = .ok (.iload_n 2, 1) := by decide +kernel
theorem dX11_two_94 : decode cX11_two 94 = .ok (.invokestatic 436, 3) := by decide +kernel
theorem dX11_two_97 : decode cX11_two 97 = .ok (.if_icmp .gt 53, 3) := by decide +kernel
theorem dX11_two_100 : decode cX11_two 100 = .ok (.iconst 1, 1) := by decide +kernel
theorem dX11_two_101 : decode cX11_two 101 = .ok (.iload 8, 2) := by decide +kernel
theorem dX11_two_103 : decode cX11_two 103 = .ok (.isub, 1) := by decide +kernel
theorem dX11_two_104 : decode cX11_two 104 = .ok (.iload 7, 2) := by decide +kernel
theorem dX11_two_106 : decode cX11_two 106 = .ok (.iload_n 1, 1) := by decide +kernel
theorem dX11_two_107 : decode cX11_two 107 = .ok (.iload_n 2, 1) := by decide +kernel
theorem dX11_two_108 : decode cX11_two 108 = .ok (.invokestatic 436, 3) := by decide +kernel
theorem dX11_two_111 : decode cX11_two 111 = .ok (.iload 8, 2) := by decide +kernel
theorem dX11_two_113 : decode cX11_two 113 = .ok (.iload 7, 2) := by decide +kernel
theorem dX11_two_115 : decode cX11_two 115 = .ok (.iload_n 1, 1) := by decide +kernel
theorem dX11_two_116 : decode cX11_two 116 = .ok (.iload_n 2, 1) := by decide +kernel
theorem dX11_two_117 : decode cX11_two 117 = .ok (.invokestatic 436, 3) := by decide +kernel
theorem dX11_two_120 : decode cX11_two 120 = .ok (.if_icmp .le 6, 3) := by decide +kernel
theorem dX11_two_123 : decode cX11_two 123 = .ok (.goto 27, 3) := by decide +kernel
theorem dX11_two_126 : decode cX11_two 126 = .ok (.iinc 4 1, 3) := by decide +kernel
theorem dX11_two_129 : decode cX11_two 129 = .ok (.iload 5, 2) := by decide +kernel
theorem dX11_two_131 : decode cX11_two 131 = .ok (.iconst (-1), 1) := by decide +kernel
theorem dX11_two_132 : decode cX11_two 132 = .ok (.if_icmp .ne 14, 3) := by decide +kernel
theorem dX11_two_135 : decode cX11_two 135 = .ok (.bipush 10, 2) := by decide +kernel
theorem dX11_two_137 : decode cX11_two 137 = .ok (.iload 7, 2) := by decide +kernel
theorem dX11_two_139 : decode cX11_two 139 = .ok (.imul, 1) := by decide +kernel
theorem dX11_two_140 : decode cX11_two 140 = .ok (.iload 8, 2) := by decide +kernel
theorem dX11_two_142 : decode cX11_two 142 = .ok (.iadd, 1) := by decide +kernel
theorem dX11_two_143 : decode cX11_two 143 = .ok (.goto 5, 3) := by decide +kernel
theorem dX11_two_146 : decode cX11_two 146 = .ok (.iload 5, 2) := by decide +kernel
theorem dX11_two_148 : decode cX11_two 148 = .ok (.istore 5, 2) := by decide +kernel
theorem dX11_two_150 : decode cX11_two 150 = .ok (.iinc 6 1, 3) := by decide +kernel
theorem dX11_two_153 : decode cX11_two 153 = .ok (.goto (-94), 3) := by decide +kernel
theorem dX11_two_156 : decode cX11_two 156 = .ok (.iload_n 3, 1) := by decide +kernel
theorem dX11_two_157 : decode cX11_two 157 = .ok (.ifCond .ne 8, 3) := by decide +kernel
theorem dX11_two_160 : decode cX11_two 160 = .ok (.iload 4, 2) := by decide +kernel
theorem dX11_two_162 : decode cX11_two 162 = .ok (.goto 54, 3) := by decide +kernel
theorem dX11_two_165 : decode cX11_two 165 = .ok (.iload_n 3, 1) := by decide +kernel
theorem dX11_two_166 : decode cX11_two 166 = .ok (.iconst 1, 1) := by decide +kernel
theorem dX11_two_167 : decode cX11_two 167 = .ok (.if_icmp .ne 8, 3) := by decide +kernel
theorem dX11_two_170 : decode cX11_two 170 = .ok (.iload 5, 2) := by decide +kernel
theorem dX11_two_172 : decode cX11_two 172 = .ok (.goto 44, 3) := by decide +kernel
theorem dX11_two_175 : decode cX11_two 175 = .ok (.iload 5, 2) := by decide +kernel
theorem dX11_two_177 : decode cX11_two 177 = .ok (.iconst (-1), 1) := by decide +kernel
theorem dX11_two_178 : decode cX11_two 178 = .ok (.if_icmp .ne 7, 3) := by decide +kernel
theorem dX11_two_181 : decode cX11_two 181 = .ok (.iconst 0, 1) := by decide +kernel
theorem dX11_two_182 : decode cX11_two 182 = .ok (.goto 34, 3) := by decide +kernel
theorem dX11_two_185 : decode cX11_two 185 = .ok (.iload 5, 2) := by decide +kernel
theorem dX11_two_187 : decode cX11_two 187 = .ok (.bipush 10, 2) := by decide +kernel
theorem dX11_two_189 : decode cX11_two 189 = .ok (.idiv, 1) := by decide +kernel
theorem dX11_two_190 : decode cX11_two 190 = .ok (.iload 5, 2) := by decide +kernel
theorem dX11_two_192 : decode cX11_two 192 = .ok (.bipush 10, 2) := by decide +kernel
theorem dX11_two_194 : decode cX11_two 194 = .ok (.irem, 1) := by decide +kernel
theorem dX11_two_195 : decode cX11_two 195 = .ok (.iload_n 1, 1) := by decide +kernel
theorem dX11_two_196 : decode cX11_two 196 = .ok (.iload_n 2, 1) := by decide +kernel
theorem dX11_two_197 : decode cX11_two 197 = .ok (.invokestatic 436, 3) := by decide +kernel
theorem dX11_two_200 : decode cX11_two 200 = .ok (.iload 5, 2) := by decide +kernel
theorem dX11_two_202 : decode cX11_two 202 = .ok (.bipush 10, 2) := by decide +kernel
theorem dX11_two_204 : decode cX11_two 204 = .ok (.irem, 1) := by decide +kernel
theorem dX11_two_205 : decode cX11_two 205 = .ok (.iload 5, 2) := by decide +kernel
theorem dX11_two_207 : decode cX11_two 207 = .ok (.bipush 10, 2) := by decide +kernel
theorem dX11_two_209 : decode cX11_two 209 = .ok (.idiv, 1) := by decide +kernel
theorem dX11_two_210 : decode cX11_two 210 = .ok (.iload_n 1, 1) := by decide +kernel
theorem dX11_two_211 : decode cX11_two 211 = .ok (.iload_n 2, 1) := by decide +kernel
theorem dX11_two_212 : decode cX11_two 212 = .ok (.invokestatic 436, 3) := by decide +kernel
theorem dX11_two_215 : decode cX11_two 215 = .ok (.iadd, 1) := by decide +kernel
theorem dX11_two_216 : decode cX11_two 216 = .ok (.ireturn, 1) := by decide +kernel
theorem dX11_sharedBy_0 : decode cX11_sharedBy 0 = .ok (.iconst 0, 1) := by decide +kernel
theorem dX11_sharedBy_1 : decode cX11_sharedBy 1 = .ok (.istore_n 3, 1) := by decide +kernel
theorem dX11_sharedBy_2 : decode cX11_sharedBy 2 = .ok (.iconst 0, 1) := by decide +kernel
theorem dX11_sharedBy_3 : decode cX11_sharedBy 3 = .ok (.istore 4, 2) := by decide +kernel
theorem dX11_sharedBy_5 : decode cX11_sharedBy 5 = .ok (.iload 4, 2) := by decide +kernel
theorem dX11_sharedBy_7 : decode cX11_sharedBy 7 = .ok (.aload_n 0, 1) := by decide +kernel
theorem dX11_sharedBy_8 : decode cX11_sharedBy 8 = .ok (.getfield 181, 3) := by decide +kernel
theorem dX11_sharedBy_11 : decode cX11_sharedBy 11 = .ok (.if_icmp .ge 47, 3) := by decide +kernel
theorem dX11_sharedBy_14 : decode cX11_sharedBy 14 = .ok (.iload_n 3, 1) := by decide +kernel
theorem dX11_sharedBy_15 : decode cX11_sharedBy 15 = .ok (.iload_n 1, 1) := by decide +kernel
theorem dX11_sharedBy_16 : decode cX11_sharedBy 16 = .ok (.iload 4, 2) := by decide +kernel
theorem dX11_sharedBy_18 : decode cX11_sharedBy 18 = .ok (.ishr, 1) := by decide +kernel
theorem dX11_sharedBy_19 : decode cX11_sharedBy 19 = .ok (.iconst 1, 1) := by decide +kernel
theorem dX11_sharedBy_20 : decode cX11_sharedBy 20 = .ok (.iand, 1) := by decide +kernel
theorem dX11_sharedBy_21 : decode cX11_sharedBy 21 = .ok (.aload_n 0, 1) := by decide +kernel
theorem dX11_sharedBy_22 : decode cX11_sharedBy 22 = .ok (.getfield 71, 3) := by decide +kernel
theorem dX11_sharedBy_25 : decode cX11_sharedBy 25 = .ok (.bipush 24, 2) := by decide +kernel
theorem dX11_sharedBy_27 : decode cX11_sharedBy 27 = .ok (.iload 4, 2) := by decide +kernel
theorem dX11_sharedBy_29 : decode cX11_sharedBy 29 = .ok (.iadd, 1) := by decide +kernel
theorem dX11_sharedBy_30 : decode cX11_sharedBy 30 = .ok (.iaload, 1) := by decide +kernel
theorem dX11_sharedBy_31 : decode cX11_sharedBy 31 = .ok (.iload_n 2, 1) := by decide +kernel
theorem dX11_sharedBy_32 : decode cX11_sharedBy 32 = .ok (.if_icmp .ge 16, 3) := by decide +kernel
theorem dX11_sharedBy_35 : decode cX11_sharedBy 35 = .ok (.aload_n 0, 1) := by decide +kernel
theorem dX11_sharedBy_36 : decode cX11_sharedBy 36 = .ok (.getfield 71, 3) := by decide +kernel
theorem dX11_sharedBy_39 : decode cX11_sharedBy 39 = .ok (.bipush 24, 2) := by decide +kernel
theorem dX11_sharedBy_41 : decode cX11_sharedBy 41 = .ok (.iload 4, 2) := by decide +kernel
theorem dX11_sharedBy_43 : decode cX11_sharedBy 43 = .ok (.iadd, 1) := by decide +kernel
theorem dX11_sharedBy_44 : decode cX11_sharedBy 44 = .ok (.iaload, 1) := by decide +kernel
theorem dX11_sharedBy_45 : decode cX11_sharedBy 45 = .ok (.goto 4, 3) := by decide +kernel
theorem dX11_sharedBy_48 : decode cX11_sharedBy 48 = .ok (.iload_n 2, 1) := by decide +kernel
theorem dX11_sharedBy_49 : decode cX11_sharedBy 49 = .ok (.imul, 1) := by decide +kernel
theorem dX11_sharedBy_50 : decode cX11_sharedBy 50 = .ok (.iadd, 1) := by decide +kernel
theorem dX11_sharedBy_51 : decode cX11_sharedBy 51 = .ok (.istore_n 3, 1) := by decide +kernel
theorem dX11_sharedBy_52 : decode cX11_sharedBy 52 = .ok (.iinc 4 1, 3) := by decide +kernel
theorem dX11_sharedBy_55 : decode cX11_sharedBy 55 = .ok (.goto (-50), 3) := by decide +kernel
theorem dX11_sharedBy_58 : decode cX11_sharedBy 58 = .ok (.iload_n 3, 1) := by decide +kernel
theorem dX11_sharedBy_59 : decode cX11_sharedBy 59 = .ok (.ireturn, 1) := by decide +kernel
theorem dX11_share_0 : decode cX11_share 0 = .ok (.aload_n 0, 1) := by decide +kernel
theorem dX11_share_1 : decode cX11_share 1 = .ok (.iconst 0, 1) := by decide +kernel
theorem dX11_share_2 : decode cX11_share 2 = .ok (.putfield 3, 3) := by decide +kernel
theorem dX11_share_5 : decode cX11_share 5 = .ok (.aload_n 0, 1) := by decide +kernel
theorem dX11_share_6 : decode cX11_share 6 = .ok (.iload_n 1, 1) := by decide +kernel
theorem dX11_share_7 : decode cX11_share 7 = .ok (.iconst 1, 1) := by decide +kernel
theorem dX11_share_8 : decode cX11_share 8 = .ok (.invokevirtual 404, 3) := by decide +kernel
theorem dX11_share_11 : decode cX11_share 11 = .ok (.ifCond .eq 42, 3) := by decide +kernel
theorem dX11_share_14 : decode cX11_share 14 = .ok (.aload_n 0, 1) := by decide +kernel
theorem dX11_share_15 : decode cX11_share 15 = .ok (.iload_n 2, 1) := by decide +kernel
theorem dX11_share_16 : decode cX11_share 16 = .ok (.ifCond .lt 28, 3) := by decide +kernel
theorem dX11_share_19 : decode cX11_share 19 = .ok (.iload_n 2, 1) := by decide +kernel
theorem dX11_share_20 : decode cX11_share 20 = .ok (.iconst 1, 1) := by decide +kernel
theorem dX11_share_21 : decode cX11_share 21 = .ok (.aload_n 0, 1) := by decide +kernel
theorem dX11_share_22 : decode cX11_share 22 = .ok (.getfield 181, 3) := by decide +kernel
theorem dX11_share_25 : decode cX11_share 25 = .ok (.ishl, 1) := by decide +kernel
theorem dX11_share_26 : decode cX11_share 26 = .ok (.if_icmp .ge 18, 3) := by decide +kernel
theorem dX11_share_29 : decode cX11_share 29 = .ok (.iload_n 3, 1) := by decide +kernel
theorem dX11_share_30 : decode cX11_share 30 = .ok (.iconst 0, 1) := by decide +kernel
theorem dX11_share_31 : decode cX11_share 31 = .ok (.sipush 9999, 3) := by decide +kernel
theorem dX11_share_34 : decode cX11_share 34 = .ok (.invokestatic 383, 3) := by decide +kernel
theorem dX11_share_37 : decode cX11_share 37 = .ok (.ifCond .eq 7, 3) := by decide +kernel
theorem dX11_share_40 : decode cX11_share 40 = .ok (.iconst 1, 1) := by decide +kernel
theorem dX11_share_41 : decode cX11_share 41 = .ok (.goto 4, 3) := by decide +kernel
theorem dX11_share_44 : decode cX11_share 44 = .ok (.iconst 0, 1) := by decide +kernel
theorem dX11_share_45 : decode cX11_share 45 = .ok (.iconst 2, 1) := by decide +kernel
theorem dX11_share_46 : decode cX11_share 46 = .ok (.iconst 1, 1) := by decide +kernel
theorem dX11_share_47 : decode cX11_share 47 = .ok (.invokevirtual 216, 3) := by decide +kernel
theorem dX11_share_50 : decode cX11_share 50 = .ok (.ifCond .ne 5, 3) := by decide +kernel
theorem dX11_share_53 : decode cX11_share 53 = .ok (.iconst 0, 1) := by decide +kernel
theorem dX11_share_54 : decode cX11_share 54 = .ok (.ireturn, 1) := by decide +kernel
theorem dX11_share_55 : decode cX11_share 55 = .ok (.iconst 0, 1) := by decide +kernel
theorem dX11_share_56 : decode cX11_share 56 = .ok (.istore 4, 2) := by decide +kernel
theorem dX11_share_58 : decode cX11_share 58 = .ok (.sipush 9999, 3) := by decide +kernel
theorem dX11_share_61 : decode cX11_share 61 = .ok (.istore 5, 2) := by decide +kernel
theorem dX11_share_63 : decode cX11_share 63 = .ok (.iload 4, 2) := by decide +kernel
theorem dX11_share_65 : decode cX11_share 65 = .ok (.iload 5, 2) := by decide +kernel
theorem dX11_share_67 : decode cX11_share 67 = .ok (.if_icmp .ge 41, 3) := by decide +kernel
theorem dX11_share_70 : decode cX11_share 70 = .ok (.iload 4, 2) := by decide +kernel
theorem dX11_share_72 : decode cX11_share 72 = .ok (.iload 5, 2) := by decide +kernel
theorem dX11_share_74 : decode cX11_share 74 = .ok (.iadd, 1) := by decide +kernel
theorem dX11_share_75 : decode cX11_share 75 = .ok (.iconst 1, 1) := by decide +kernel
theorem dX11_share_76 : decode cX11_share 76 = .ok (.iadd, 1) := by decide +kernel
theorem dX11_share_77 : decode cX11_share 77 = .ok (.iconst 2, 1) := by decide +kernel
theorem dX11_share_78 : decode cX11_share 78 = .ok (.idiv, 1) := by decide +kernel
theorem dX11_share_79 : decode cX11_share 79 = .ok (.istore 6, 2) := by decide +kernel
theorem dX11_share_81 : decode cX11_share 81 = .ok (.aload_n 0, 1) := by decide +kernel
theorem dX11_share_82 : decode cX11_share 82 = .ok (.iload_n 2, 1) := by decide +kernel
theorem dX11_share_83 : decode cX11_share 83 = .ok (.iload 6, 2) := by decide +kernel
theorem dX11_share_85 : decode cX11_share 85 = .ok (.invokevirtual 439, 3) := by decide +kernel
theorem dX11_share_88 : decode cX11_share 88 = .ok (.iload_n 3, 1) := by decide +kernel
theorem dX11_share_89 : decode cX11_share 89 = .ok (.if_icmp .gt 10, 3) := by decide +kernel
theorem dX11_share_92 : decode cX11_share 92 = .ok (.iload 6, 2) := by decide +kernel
theorem dX11_share_94 : decode cX11_share 94 = .ok (.istore 4, 2) := by decide +kernel
theorem dX11_share_96 : decode cX11_share 96 = .ok (.goto 9, 3) := by decide +kernel
theorem dX11_share_99 : decode cX11_share 99 = .ok (.iload 6, 2) := by decide +kernel
theorem dX11_share_101 : decode cX11_share 101 = .ok (.iconst 1, 1) := by decide +kernel
theorem dX11_share_102 : decode cX11_share 102 = .ok (.isub, 1) := by decide +kernel
theorem dX11_share_103 : decode cX11_share 103 = .ok (.istore 5, 2) := by decide +kernel
theorem dX11_share_105 : decode cX11_share 105 = .ok (.goto (-42), 3) := by decide +kernel
theorem dX11_share_108 : decode cX11_share 108 = .ok (.iload_n 2, 1) := by decide +kernel
theorem dX11_share_109 : decode cX11_share 109 = .ok (.iload_n 1, 1) := by decide +kernel
theorem dX11_share_110 : decode cX11_share 110 = .ok (.ishr, 1) := by decide +kernel
theorem dX11_share_111 : decode cX11_share 111 = .ok (.iconst 1, 1) := by decide +kernel
theorem dX11_share_112 : decode cX11_share 112 = .ok (.iand, 1) := by decide +kernel
theorem dX11_share_113 : decode cX11_share 113 = .ok (.ifCond .ne 5, 3) := by decide +kernel
theorem dX11_share_116 : decode cX11_share 116 = .ok (.iconst 0, 1) := by decide +kernel
theorem dX11_share_117 : decode cX11_share 117 = .ok (.ireturn, 1) := by decide +kernel
theorem dX11_share_118 : decode cX11_share 118 = .ok (.aload_n 0, 1) := by decide +kernel
theorem dX11_share_119 : decode cX11_share 119 = .ok (.getfield 71, 3) := by decide +kernel
theorem dX11_share_122 : decode cX11_share 122 = .ok (.bipush 24, 2) := by decide +kernel
theorem dX11_share_124 : decode cX11_share 124 = .ok (.iload_n 1, 1) := by decide +kernel
theorem dX11_share_125 : decode cX11_share 125 = .ok (.iadd, 1) := by decide +kernel
theorem dX11_share_126 : decode cX11_share 126 = .ok (.iaload, 1) := by decide +kernel
theorem dX11_share_127 : decode cX11_share 127 = .ok (.iload 4, 2) := by decide +kernel
theorem dX11_share_129 : decode cX11_share 129 = .ok (.if_icmp .ge 15, 3) := by decide +kernel
theorem dX11_share_132 : decode cX11_share 132 = .ok (.aload_n 0, 1) := by decide +kernel
theorem dX11_share_133 : decode cX11_share 133 = .ok (.getfield 71, 3) := by decide +kernel
theorem dX11_share_136 : decode cX11_share 136 = .ok (.bipush 24, 2) := by decide +kernel
theorem dX11_share_138 : decode cX11_share 138 = .ok (.iload_n 1, 1) := by decide +kernel
theorem dX11_share_139 : decode cX11_share 139 = .ok (.iadd, 1) := by decide +kernel
theorem dX11_share_140 : decode cX11_share 140 = .ok (.iaload, 1) := by decide +kernel
theorem dX11_share_141 : decode cX11_share 141 = .ok (.goto 5, 3) := by decide +kernel
theorem dX11_share_144 : decode cX11_share 144 = .ok (.iload 4, 2) := by decide +kernel
theorem dX11_share_146 : decode cX11_share 146 = .ok (.ireturn, 1) := by decide +kernel
theorem dX11_best_0 : decode cX11_best 0 = .ok (.aload_n 0, 1) := by decide +kernel
theorem dX11_best_1 : decode cX11_best 1 = .ok (.iconst 0, 1) := by decide +kernel
theorem dX11_best_2 : decode cX11_best 2 = .ok (.putfield 3, 3) := by decide +kernel
theorem dX11_best_5 : decode cX11_best 5 = .ok (.aload_n 0, 1) := by decide +kernel
theorem dX11_best_6 : decode cX11_best 6 = .ok (.iload_n 1, 1) := by decide +kernel
theorem dX11_best_7 : decode cX11_best 7 = .ok (.iconst 0, 1) := by decide +kernel
theorem dX11_best_8 : decode cX11_best 8 = .ok (.iconst 1, 1) := by decide +kernel
theorem dX11_best_9 : decode cX11_best 9 = .ok (.invokestatic 383, 3) := by decide +kernel
theorem dX11_best_12 : decode cX11_best 12 = .ok (.iconst 1, 1) := by decide +kernel
theorem dX11_best_13 : decode cX11_best 13 = .ok (.iconst 1, 1) := by decide +kernel
theorem dX11_best_14 : decode cX11_best 14 = .ok (.invokevirtual 216, 3) := by decide +kernel
theorem dX11_best_17 : decode cX11_best 17 = .ok (.ifCond .ne 5, 3) := by decide +kernel
theorem dX11_best_20 : decode cX11_best 20 = .ok (.iconst 0, 1) := by decide +kernel
theorem dX11_best_21 : decode cX11_best 21 = .ok (.ireturn, 1) := by decide +kernel
theorem dX11_best_22 : decode cX11_best 22 = .ok (.iconst (-1), 1) := by decide +kernel
theorem dX11_best_23 : decode cX11_best 23 = .ok (.istore_n 2, 1) := by decide +kernel
theorem dX11_best_24 : decode cX11_best 24 = .ok (.iconst 0, 1) := by decide +kernel
theorem dX11_best_25 : decode cX11_best 25 = .ok (.istore_n 3, 1) := by decide +kernel
theorem dX11_best_26 : decode cX11_best 26 = .ok (.iconst 0, 1) := by decide +kernel
theorem dX11_best_27 : decode cX11_best 27 = .ok (.istore 4, 2) := by decide +kernel
theorem dX11_best_29 : decode cX11_best 29 = .ok (.iload 4, 2) := by decide +kernel
theorem dX11_best_31 : decode cX11_best 31 = .ok (.aload_n 0, 1) := by decide +kernel
theorem dX11_best_32 : decode cX11_best 32 = .ok (.getfield 181, 3) := by decide +kernel
theorem dX11_best_35 : decode cX11_best 35 = .ok (.if_icmp .ge 40, 3) := by decide +kernel
theorem dX11_best_38 : decode cX11_best 38 = .ok (.aload_n 0, 1) := by decide +kernel
theorem dX11_best_39 : decode cX11_best 39 = .ok (.getfield 71, 3) := by decide +kernel
theorem dX11_best_42 : decode cX11_best 42 = .ok (.bipush 24, 2) := by decide +kernel
theorem dX11_best_44 : decode cX11_best 44 = .ok (.iload 4, 2) := by decide +kernel
theorem dX11_best_46 : decode cX11_best 46 = .ok (.iadd, 1) := by decide +kernel
theorem dX11_best_47 : decode cX11_best 47 = .ok (.iaload, 1) := by decide +kernel
theorem dX11_best_48 : decode cX11_best 48 = .ok (.iload_n 3, 1) := by decide +kernel
theorem dX11_best_49 : decode cX11_best 49 = .ok (.if_icmp .gt 6, 3) := by decide +kernel
theorem dX11_best_52 : decode cX11_best 52 = .ok (.goto 17, 3) := by decide +kernel
theorem dX11_best_55 : decode cX11_best 55 = .ok (.iload 4, 2) := by decide +kernel
theorem dX11_best_57 : decode cX11_best 57 = .ok (.istore_n 2, 1) := by decide +kernel
theorem dX11_best_58 : decode cX11_best 58 = .ok (.aload_n 0, 1) := by decide +kernel
theorem dX11_best_59 : decode cX11_best 59 = .ok (.getfield 71, 3) := by decide +kernel
theorem dX11_best_62 : decode cX11_best 62 = .ok (.bipush 24, 2) := by decide +kernel
theorem dX11_best_64 : decode cX11_best 64 = .ok (.iload 4, 2) := by decide +kernel
theorem dX11_best_66 : decode cX11_best 66 = .ok (.iadd, 1) := by decide +kernel
theorem dX11_best_67 : decode cX11_best 67 = .ok (.iaload, 1) := by decide +kernel
theorem dX11_best_68 : decode cX11_best 68 = .ok (.istore_n 3, 1) := by decide +kernel
theorem dX11_best_69 : decode cX11_best 69 = .ok (.iinc 4 1, 3) := by decide +kernel
theorem dX11_best_72 : decode cX11_best 72 = .ok (.goto (-43), 3) := by decide +kernel
theorem dX11_best_75 : decode cX11_best 75 = .ok (.iload_n 1, 1) := by decide +kernel
theorem dX11_best_76 : decode cX11_best 76 = .ok (.ifCond .eq 8, 3) := by decide +kernel
theorem dX11_best_79 : decode cX11_best 79 = .ok (.iload_n 2, 1) := by decide +kernel
theorem dX11_best_80 : decode cX11_best 80 = .ok (.iconst (-1), 1) := by decide +kernel
theorem dX11_best_81 : decode cX11_best 81 = .ok (.if_icmp .ne 7, 3) := by decide +kernel
theorem dX11_best_84 : decode cX11_best 84 = .ok (.iload_n 2, 1) := by decide +kernel
theorem dX11_best_85 : decode cX11_best 85 = .ok (.goto 4, 3) := by decide +kernel
theorem dX11_best_88 : decode cX11_best 88 = .ok (.iload_n 3, 1) := by decide +kernel
theorem dX11_best_89 : decode cX11_best 89 = .ok (.ireturn, 1) := by decide +kernel
theorem dX11_from_0 : decode cX11_from 0 = .ok (.aload_n 0, 1) := by decide +kernel
theorem dX11_from_1 : decode cX11_from 1 = .ok (.iconst 0, 1) := by decide +kernel
theorem dX11_from_2 : decode cX11_from 2 = .ok (.putfield 3, 3) := by decide +kernel
theorem dX11_from_5 : decode cX11_from 5 = .ok (.aload_n 0, 1) := by decide +kernel
theorem dX11_from_6 : decode cX11_from 6 = .ok (.iload_n 1, 1) := by decide +kernel
theorem dX11_from_7 : decode cX11_from 7 = .ok (.iconst 0, 1) := by decide +kernel
theorem dX11_from_8 : decode cX11_from 8 = .ok (.bipush 7, 2) := by decide +kernel
theorem dX11_from_10 : decode cX11_from 10 = .ok (.invokestatic 383, 3) := by decide +kernel
theorem dX11_from_13 : decode cX11_from 13 = .ok (.iconst 1, 1) := by decide +kernel
theorem dX11_from_14 : decode cX11_from 14 = .ok (.iconst 1, 1) := by decide +kernel
theorem dX11_from_15 : decode cX11_from 15 = .ok (.invokevirtual 216, 3) := by decide +kernel
theorem dX11_from_18 : decode cX11_from 18 = .ok (.ifCond .ne 5, 3) := by decide +kernel
theorem dX11_from_21 : decode cX11_from 21 = .ok (.iconst 0, 1) := by decide +kernel
theorem dX11_from_22 : decode cX11_from 22 = .ok (.ireturn, 1) := by decide +kernel
theorem dX11_from_23 : decode cX11_from 23 = .ok (.iconst 0, 1) := by decide +kernel
theorem dX11_from_24 : decode cX11_from 24 = .ok (.istore_n 2, 1) := by decide +kernel
theorem dX11_from_25 : decode cX11_from 25 = .ok (.iconst 0, 1) := by decide +kernel
theorem dX11_from_26 : decode cX11_from 26 = .ok (.istore_n 3, 1) := by decide +kernel
theorem dX11_from_27 : decode cX11_from 27 = .ok (.iload_n 3, 1) := by decide +kernel
theorem dX11_from_28 : decode cX11_from 28 = .ok (.aload_n 0, 1) := by decide +kernel
theorem dX11_from_29 : decode cX11_from 29 = .ok (.getfield 175, 3) := by decide +kernel
theorem dX11_from_32 : decode cX11_from 32 = .ok (.if_icmp .ge 33, 3) := by decide +kernel
theorem dX11_from_35 : decode cX11_from 35 = .ok (.iload_n 2, 1) := by decide +kernel
theorem dX11_from_36 : decode cX11_from 36 = .ok (.aload_n 0, 1) := by decide +kernel
theorem dX11_from_37 : decode cX11_from 37 = .ok (.getfield 35, 3) := by decide +kernel
theorem dX11_from_40 : decode cX11_from 40 = .ok (.iconst 2, 1) := by decide +kernel
theorem dX11_from_41 : decode cX11_from 41 = .ok (.iload_n 3, 1) := by decide +kernel
theorem dX11_from_42 : decode cX11_from 42 = .ok (.imul, 1) := by decide +kernel
theorem dX11_from_43 : decode cX11_from 43 = .ok (.iconst 1, 1) := by decide +kernel
theorem dX11_from_44 : decode cX11_from 44 = .ok (.iadd, 1) := by decide +kernel
theorem dX11_from_45 : decode cX11_from 45 = .ok (.iaload, 1) := by decide +kernel
theorem dX11_from_46 : decode cX11_from 46 = .ok (.iload_n 1, 1) := by decide +kernel
theorem dX11_from_47 : decode cX11_from 47 = .ok (.if_icmp .ne 9, 3) := by decide +kernel
theorem dX11_from_50 : decode cX11_from 50 = .ok (.iconst 1, 1) := by decide +kernel
theorem dX11_from_51 : decode cX11_from 51 = .ok (.iload_n 3, 1) := by decide +kernel
theorem dX11_from_52 : decode cX11_from 52 = .ok (.ishl, 1) := by decide +kernel
theorem dX11_from_53 : decode cX11_from 53 = .ok (.goto 4, 3) := by decide +kernel
theorem dX11_from_56 : decode cX11_from 56 = .ok (.iconst 0, 1) := by decide +kernel
theorem dX11_from_57 : decode cX11_from 57 = .ok (.ior, 1) := by decide +kernel
theorem dX11_from_58 : decode cX11_from 58 = .ok (.istore_n 2, 1) := by decide +kernel
theorem dX11_from_59 : decode cX11_from 59 = .ok (.iinc 3 1, 3) := by decide +kernel
theorem dX11_from_62 : decode cX11_from 62 = .ok (.goto (-35), 3) := by decide +kernel
theorem dX11_from_65 : decode cX11_from 65 = .ok (.iload_n 2, 1) := by decide +kernel
theorem dX11_from_66 : decode cX11_from 66 = .ok (.ireturn, 1) := by decide +kernel
theorem dX11_draws_0 : decode cX11_draws 0 = .ok (.aload_n 0, 1) := by decide +kernel
theorem dX11_draws_1 : decode cX11_draws 1 = .ok (.aload_n 0, 1) := by decide +kernel
theorem dX11_draws_2 : decode cX11_draws 2 = .ok (.getfield 442, 3) := by decide +kernel
theorem dX11_draws_5 : decode cX11_draws 5 = .ok (.ldc_w 445, 3) := by decide +kernel
theorem dX11_draws_8 : decode cX11_draws 8 = .ok (.imul, 1) := by decide +kernel
theorem dX11_draws_9 : decode cX11_draws 9 = .ok (.sipush 12345, 3) := by decide +kernel
theorem dX11_draws_12 : decode cX11_draws 12 = .ok (.iadd, 1) := by decide +kernel
theorem dX11_draws_13 : decode cX11_draws 13 = .ok (.putfield 442, 3) := by decide +kernel
theorem dX11_draws_16 : decode cX11_draws 16 = .ok (.aload_n 0, 1) := by decide +kernel
theorem dX11_draws_17 : decode cX11_draws 17 = .ok (.getfield 442, 3) := by decide +kernel
theorem dX11_draws_20 : decode cX11_draws 20 = .ok (.bipush 16, 2) := by decide +kernel
theorem dX11_draws_22 : decode cX11_draws 22 = .ok (.ishr, 1) := by decide +kernel
theorem dX11_draws_23 : decode cX11_draws 23 = .ok (.sipush 32767, 3) := by decide +kernel
theorem dX11_draws_26 : decode cX11_draws 26 = .ok (.iand, 1) := by decide +kernel
theorem dX11_draws_27 : decode cX11_draws 27 = .ok (.iload_n 1, 1) := by decide +kernel
theorem dX11_draws_28 : decode cX11_draws 28 = .ok (.irem, 1) := by decide +kernel
theorem dX11_draws_29 : decode cX11_draws 29 = .ok (.ireturn, 1) := by decide +kernel
theorem dX11_seasonGoes_0 : decode cX11_seasonGoes 0 = .ok (.aload_n 0, 1) := by decide +kernel
theorem dX11_seasonGoes_1 : decode cX11_seasonGoes 1 = .ok (.invokevirtual 323, 3) := by decide +kernel
theorem dX11_seasonGoes_4 : decode cX11_seasonGoes 4 = .ok (.aload_n 0, 1) := by decide +kernel
theorem dX11_seasonGoes_5 : decode cX11_seasonGoes 5 = .ok (.iload_n 1, 1) := by decide +kernel
theorem dX11_seasonGoes_6 : decode cX11_seasonGoes 6 = .ok (.putfield 442, 3) := by decide +kernel
theorem dX11_seasonGoes_9 : decode cX11_seasonGoes 9 = .ok (.aload_n 0, 1) := by decide +kernel
theorem dX11_seasonGoes_10 : decode cX11_seasonGoes 10 = .ok (.getfield 181, 3) := by decide +kernel
theorem dX11_seasonGoes_13 : decode cX11_seasonGoes 13 = .ok (.ifCond .le 21, 3) := by decide +kernel
theorem dX11_seasonGoes_16 : decode cX11_seasonGoes 16 = .ok (.aload_n 0, 1) := by decide +kernel
theorem dX11_seasonGoes_17 : decode cX11_seasonGoes 17 = .ok (.getfield 175, 3) := by decide +kernel
theorem dX11_seasonGoes_20 : decode cX11_seasonGoes 20 = .ok (.ifCond .le 14, 3) := by decide +kernel
theorem dX11_seasonGoes_23 : decode cX11_seasonGoes 23 = .ok (.aload_n 0, 1) := by decide +kernel
theorem dX11_seasonGoes_24 : decode cX11_seasonGoes 24 = .ok (.getfield 178, 3) := by decide +kernel
theorem dX11_seasonGoes_27 : decode cX11_seasonGoes 27 = .ok (.ifCond .le 7, 3) := by decide +kernel
theorem dX11_seasonGoes_30 : decode cX11_seasonGoes 30 = .ok (.iconst 1, 1) := by decide +kernel
theorem dX11_seasonGoes_31 : decode cX11_seasonGoes 31 = .ok (.goto 4, 3) := by decide +kernel
theorem dX11_seasonGoes_34 : decode cX11_seasonGoes 34 = .ok (.iconst 0, 1) := by decide +kernel
theorem dX11_seasonGoes_35 : decode cX11_seasonGoes 35 = .ok (.istore 4, 2) := by decide +kernel
theorem dX11_seasonGoes_37 : decode cX11_seasonGoes 37 = .ok (.iconst 0, 1) := by decide +kernel
theorem dX11_seasonGoes_38 : decode cX11_seasonGoes 38 = .ok (.istore 5, 2) := by decide +kernel
theorem dX11_seasonGoes_40 : decode cX11_seasonGoes 40 = .ok (.iload 5, 2) := by decide +kernel
theorem dX11_seasonGoes_42 : decode cX11_seasonGoes 42 = .ok (.iload_n 3, 1) := by decide +kernel
theorem dX11_seasonGoes_43 : decode cX11_seasonGoes 43 = .ok (.if_icmp .ge 83, 3) := by decide +kernel
theorem dX11_seasonGoes_46 : decode cX11_seasonGoes 46 = .ok (.iload 4, 2) := by decide +kernel
theorem dX11_seasonGoes_48 : decode cX11_seasonGoes 48 = .ok (.ifCond .eq 68, 3) := by decide +kernel
theorem dX11_seasonGoes_51 : decode cX11_seasonGoes 51 = .ok (.aload_n 0, 1) := by decide +kernel
theorem dX11_seasonGoes_52 : decode cX11_seasonGoes 52 = .ok (.aload_n 0, 1) := by decide +kernel
theorem dX11_seasonGoes_53 : decode cX11_seasonGoes 53 = .ok (.getfield 181, 3) := by decide +kernel
theorem dX11_seasonGoes_56 : decode cX11_seasonGoes 56 = .ok (.invokevirtual 446, 3) := by decide +kernel
theorem dX11_seasonGoes_59 : decode cX11_seasonGoes 59 = .ok (.istore 6, 2) := by decide +kernel
theorem dX11_seasonGoes_61 : decode cX11_seasonGoes 61 = .ok (.aload_n 0, 1) := by decide +kernel
theorem dX11_seasonGoes_62 : decode cX11_seasonGoes 62 = .ok (.aload_n 0, 1) := by decide +kernel
theorem dX11_seasonGoes_63 : decode cX11_seasonGoes 63 = .ok (.getfield 175, 3) := by decide +kernel
theorem dX11_seasonGoes_66 : decode cX11_seasonGoes 66 = .ok (.invokevirtual 446, 3) := by decide +kernel
theorem dX11_seasonGoes_69 : decode cX11_seasonGoes 69 = .ok (.istore 7, 2) := by decide +kernel
theorem dX11_seasonGoes_71 : decode cX11_seasonGoes 71 = .ok (.aload_n 0, 1) := by decide +kernel
theorem dX11_seasonGoes_72 : decode cX11_seasonGoes 72 = .ok (.aload_n 0, 1) := by decide +kernel
theorem dX11_seasonGoes_73 : decode cX11_seasonGoes 73 = .ok (.getfield 178, 3) := by decide +kernel
theorem dX11_seasonGoes_76 : decode cX11_seasonGoes 76 = .ok (.invokevirtual 446, 3) := by decide +kernel
theorem dX11_seasonGoes_79 : decode cX11_seasonGoes 79 = .ok (.istore 8, 2) := by decide +kernel
theorem dX11_seasonGoes_81 : decode cX11_seasonGoes 81 = .ok (.aload_n 0, 1) := by decide +kernel
theorem dX11_seasonGoes_82 : decode cX11_seasonGoes 82 = .ok (.iload 6, 2) := by decide +kernel
theorem dX11_seasonGoes_84 : decode cX11_seasonGoes 84 = .ok (.iload 7, 2) := by decide +kernel
theorem dX11_seasonGoes_86 : decode cX11_seasonGoes 86 = .ok (.invokevirtual 364, 3) := by decide +kernel
theorem dX11_seasonGoes_89 : decode cX11_seasonGoes 89 = .ok (.pop, 1) := by decide +kernel
theorem dX11_seasonGoes_90 : decode cX11_seasonGoes 90 = .ok (.aload_n 0, 1) := by decide +kernel
theorem dX11_seasonGoes_91 : decode cX11_seasonGoes 91 = .ok (.iload 6, 2) := by decide +kernel
theorem dX11_seasonGoes_93 : decode cX11_seasonGoes 93 = .ok (.iload 8, 2) := by decide +kernel
theorem dX11_seasonGoes_95 : decode cX11_seasonGoes 95 = .ok (.invokevirtual 368, 3) := by decide +kernel
theorem dX11_seasonGoes_98 : decode cX11_seasonGoes 98 = .ok (.pop, 1) := by decide +kernel
theorem dX11_seasonGoes_99 : decode cX11_seasonGoes 99 = .ok (.aload_n 0, 1) := by decide +kernel
theorem dX11_seasonGoes_100 : decode cX11_seasonGoes 100 = .ok (.bipush 16, 2) := by decide +kernel
theorem dX11_seasonGoes_102 : decode cX11_seasonGoes 102 = .ok (.invokevirtual 446, 3) := by decide +kernel
theorem dX11_seasonGoes_105 : decode cX11_seasonGoes 105 = .ok (.iload_n 2, 1) := by decide +kernel
theorem dX11_seasonGoes_106 : decode cX11_seasonGoes 106 = .ok (.if_icmp .ge 10, 3) := by decide +kernel
theorem dX11_seasonGoes_109 : decode cX11_seasonGoes 109 = .ok (.aload_n 0, 1) := by decide +kernel
theorem dX11_seasonGoes_110 : decode cX11_seasonGoes 110 = .ok (.iload 6, 2) := by decide +kernel
theorem dX11_seasonGoes_112 : decode cX11_seasonGoes 112 = .ok (.invokevirtual 371, 3) := by decide +kernel
theorem dX11_seasonGoes_115 : decode cX11_seasonGoes 115 = .ok (.pop, 1) := by decide +kernel
theorem dX11_seasonGoes_116 : decode cX11_seasonGoes 116 = .ok (.aload_n 0, 1) := by decide +kernel
theorem dX11_seasonGoes_117 : decode cX11_seasonGoes 117 = .ok (.invokevirtual 377, 3) := by decide +kernel
theorem dX11_seasonGoes_120 : decode cX11_seasonGoes 120 = .ok (.iinc 5 1, 3) := by decide +kernel
theorem dX11_seasonGoes_123 : decode cX11_seasonGoes 123 = .ok (.goto (-83), 3) := by decide +kernel
theorem dX11_seasonGoes_126 : decode cX11_seasonGoes 126 = .ok (.return_, 1) := by decide +kernel
theorem dX11_isSeason_0 : decode cX11_isSeason 0 = .ok (.iload_n 0, 1) := by decide +kernel
theorem dX11_isSeason_1 : decode cX11_isSeason 1 = .ok (.ifCond .lt 24, 3) := by decide +kernel
theorem dX11_isSeason_4 : decode cX11_isSeason 4 = .ok (.iload_n 0, 1) := by decide +kernel
theorem dX11_isSeason_5 : decode cX11_isSeason 5 = .ok (.bipush 16, 2) := by decide +kernel
theorem dX11_isSeason_7 : decode cX11_isSeason 7 = .ok (.if_icmp .gt 18, 3) := by decide +kernel
theorem dX11_isSeason_10 : decode cX11_isSeason 10 = .ok (.iload_n 1, 1) := by decide +kernel
theorem dX11_isSeason_11 : decode cX11_isSeason 11 = .ok (.iconst 1, 1) := by decide +kernel
theorem dX11_isSeason_12 : decode cX11_isSeason 12 = .ok (.if_icmp .lt 13, 3) := by decide +kernel
theorem dX11_isSeason_15 : decode cX11_isSeason 15 = .ok (.iload_n 1, 1) := by decide +kernel
theorem dX11_isSeason_16 : decode cX11_isSeason 16 = .ok (.bipush 96, 2) := by decide +kernel
theorem dX11_isSeason_18 : decode cX11_isSeason 18 = .ok (.if_icmp .gt 7, 3) := by decide +kernel
theorem dX11_isSeason_21 : decode cX11_isSeason 21 = .ok (.iconst 1, 1) := by decide +kernel
theorem dX11_isSeason_22 : decode cX11_isSeason 22 = .ok (.goto 4, 3) := by decide +kernel
theorem dX11_isSeason_25 : decode cX11_isSeason 25 = .ok (.iconst 0, 1) := by decide +kernel
theorem dX11_isSeason_26 : decode cX11_isSeason 26 = .ok (.ireturn, 1) := by decide +kernel
theorem dX11_season_0 : decode cX11_season 0 = .ok (.aload_n 0, 1) := by decide +kernel
theorem dX11_season_1 : decode cX11_season 1 = .ok (.iconst 0, 1) := by decide +kernel
theorem dX11_season_2 : decode cX11_season 2 = .ok (.putfield 3, 3) := by decide +kernel
theorem dX11_season_5 : decode cX11_season 5 = .ok (.aload_n 0, 1) := by decide +kernel
theorem dX11_season_6 : decode cX11_season 6 = .ok (.iload_n 2, 1) := by decide +kernel
theorem dX11_season_7 : decode cX11_season 7 = .ok (.iload_n 3, 1) := by decide +kernel
theorem dX11_season_8 : decode cX11_season 8 = .ok (.invokestatic 449, 3) := by decide +kernel
theorem dX11_season_11 : decode cX11_season 11 = .ok (.ifCond .eq 17, 3) := by decide +kernel
theorem dX11_season_14 : decode cX11_season 14 = .ok (.iload 4, 2) := by decide +kernel
theorem dX11_season_16 : decode cX11_season 16 = .ok (.iconst 0, 1) := by decide +kernel
theorem dX11_season_17 : decode cX11_season 17 = .ok (.iconst 3, 1) := by decide +kernel
theorem dX11_season_18 : decode cX11_season 18 = .ok (.invokestatic 383, 3) := by decide +kernel
theorem dX11_season_21 : decode cX11_season 21 = .ok (.ifCond .eq 7, 3) := by decide +kernel
theorem dX11_season_24 : decode cX11_season 24 = .ok (.iconst 1, 1) := by decide +kernel
theorem dX11_season_25 : decode cX11_season 25 = .ok (.goto 4, 3) := by decide +kernel
theorem dX11_season_28 : decode cX11_season 28 = .ok (.iconst 0, 1) := by decide +kernel
theorem dX11_season_29 : decode cX11_season 29 = .ok (.iconst 1, 1) := by decide +kernel
theorem dX11_season_30 : decode cX11_season 30 = .ok (.iconst 1, 1) := by decide +kernel
