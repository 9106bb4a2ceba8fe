theorem dX11_look_11 : decode cX11_look 11 = .ok (.ifCond .eq 18, 3) := by decide +kernel
theorem dX11_look_14 : decode cX11_look 14 = .ok (.aload_n 0, 1) := by decide +kernel
theorem dX11_look_15 : decode cX11_look 15 = .ok (.iload_n 2, 1) := by decide +kernel
theorem dX11_look_16 : decode cX11_look 16 = .ok (.iconst 0, 1) := by decide +kernel
theorem dX11_look_17 : decode cX11_look 17 = .ok (.iconst 1, 1) := by decide +kernel
theorem dX11_look_18 : decode cX11_look 18 = .ok (.invokestatic 383, 3) := by decide +kernel
theorem dX11_look_21 : decode cX11_look 21 = .ok (.iconst 2, 1) := by decide +kernel
theorem dX11_look_22 : decode cX11_look 22 = .ok (.iconst 1, 1) := by decide +kernel
theorem dX11_look_23 : decode cX11_look 23 = .ok (.invokevirtual 216, 3) := by decide +kernel
theorem dX11_look_26 : decode cX11_look 26 = .ok (.ifCond .ne 5, 3) := by decide +kernel
theorem dX11_look_29 : decode cX11_look 29 = .ok (.iconst 0, 1) := by decide +kernel
theorem dX11_look_30 : decode cX11_look 30 = .ok (.ireturn, 1) := by decide +kernel
theorem dX11_look_31 : decode cX11_look 31 = .ok (.aload_n 0, 1) := by decide +kernel
theorem dX11_look_32 : decode cX11_look 32 = .ok (.iload_n 1, 1) := by decide +kernel
theorem dX11_look_33 : decode cX11_look 33 = .ok (.invokevirtual 428, 3) := by decide +kernel
theorem dX11_look_36 : decode cX11_look 36 = .ok (.iconst (-1), 1) := by decide +kernel
theorem dX11_look_37 : decode cX11_look 37 = .ok (.istore_n 3, 1) := by decide +kernel
theorem dX11_look_38 : decode cX11_look 38 = .ok (.iconst (-1), 1) := by decide +kernel
theorem dX11_look_39 : decode cX11_look 39 = .ok (.istore 4, 2) := by decide +kernel
theorem dX11_look_41 : decode cX11_look 41 = .ok (.iconst 0, 1) := by decide +kernel
theorem dX11_look_42 : decode cX11_look 42 = .ok (.istore 5, 2) := by decide +kernel
theorem dX11_look_44 : decode cX11_look 44 = .ok (.iload 5, 2) := by decide +kernel
theorem dX11_look_46 : decode cX11_look 46 = .ok (.bipush 24, 2) := by decide +kernel
theorem dX11_look_48 : decode cX11_look 48 = .ok (.if_icmp .ge 180, 3) := by decide +kernel
theorem dX11_look_51 : decode cX11_look 51 = .ok (.aload_n 0, 1) := by decide +kernel
theorem dX11_look_52 : decode cX11_look 52 = .ok (.getfield 86, 3) := by decide +kernel
theorem dX11_look_55 : decode cX11_look 55 = .ok (.iload 5, 2) := by decide +kernel
theorem dX11_look_57 : decode cX11_look 57 = .ok (.iaload, 1) := by decide +kernel
theorem dX11_look_58 : decode cX11_look 58 = .ok (.iconst (-1), 1) := by decide +kernel
theorem dX11_look_59 : decode cX11_look 59 = .ok (.if_icmp .eq 6, 3) := by decide +kernel
theorem dX11_look_62 : decode cX11_look 62 = .ok (.goto 160, 3) := by decide +kernel
theorem dX11_look_65 : decode cX11_look 65 = .ok (.iconst 0, 1) := by decide +kernel
theorem dX11_look_66 : decode cX11_look 66 = .ok (.istore 6, 2) := by decide +kernel
theorem dX11_look_68 : decode cX11_look 68 = .ok (.iload 6, 2) := by decide +kernel
theorem dX11_look_70 : decode cX11_look 70 = .ok (.bipush 99, 2) := by decide +kernel
theorem dX11_look_72 : decode cX11_look 72 = .ok (.if_icmp .gt 17, 3) := by decide +kernel
theorem dX11_look_75 : decode cX11_look 75 = .ok (.aload_n 0, 1) := by decide +kernel
theorem dX11_look_76 : decode cX11_look 76 = .ok (.getfield 108, 3) := by decide +kernel
theorem dX11_look_79 : decode cX11_look 79 = .ok (.iload 6, 2) := by decide +kernel
theorem dX11_look_81 : decode cX11_look 81 = .ok (.iconst 0, 1) := by decide +kernel
theorem dX11_look_82 : decode cX11_look 82 = .ok (.iastore, 1) := by decide +kernel
theorem dX11_look_83 : decode cX11_look 83 = .ok (.iinc 6 1, 3) := by decide +kernel
theorem dX11_look_86 : decode cX11_look 86 = .ok (.goto (-18), 3) := by decide +kernel
theorem dX11_look_89 : decode cX11_look 89 = .ok (.iconst 0, 1) := by decide +kernel
theorem dX11_look_90 : decode cX11_look 90 = .ok (.istore 6, 2) := by decide +kernel
theorem dX11_look_92 : decode cX11_look 92 = .ok (.iconst 0, 1) := by decide +kernel
theorem dX11_look_93 : decode cX11_look 93 = .ok (.istore 7, 2) := by decide +kernel
theorem dX11_look_95 : decode cX11_look 95 = .ok (.iload 7, 2) := by decide +kernel
theorem dX11_look_97 : decode cX11_look 97 = .ok (.aload_n 0, 1) := by decide +kernel
theorem dX11_look_98 : decode cX11_look 98 = .ok (.getfield 175, 3) := by decide +kernel
theorem dX11_look_101 : decode cX11_look 101 = .ok (.aload_n 0, 1) := by decide +kernel
theorem dX11_look_102 : decode cX11_look 102 = .ok (.getfield 178, 3) := by decide +kernel
theorem dX11_look_105 : decode cX11_look 105 = .ok (.imul, 1) := by decide +kernel
theorem dX11_look_106 : decode cX11_look 106 = .ok (.if_icmp .ge 94, 3) := by decide +kernel
theorem dX11_look_109 : decode cX11_look 109 = .ok (.bipush 6, 2) := by decide +kernel
theorem dX11_look_111 : decode cX11_look 111 = .ok (.iload 7, 2) := by decide +kernel
theorem dX11_look_113 : decode cX11_look 113 = .ok (.aload_n 0, 1) := by decide +kernel
theorem dX11_look_114 : decode cX11_look 114 = .ok (.getfield 178, 3) := by decide +kernel
theorem dX11_look_117 : decode cX11_look 117 = .ok (.idiv, 1) := by decide +kernel
theorem dX11_look_118 : decode cX11_look 118 = .ok (.imul, 1) := by decide +kernel
theorem dX11_look_119 : decode cX11_look 119 = .ok (.iload 7, 2) := by decide +kernel
theorem dX11_look_121 : decode cX11_look 121 = .ok (.aload_n 0, 1) := by decide +kernel
theorem dX11_look_122 : decode cX11_look 122 = .ok (.getfield 178, 3) := by decide +kernel
theorem dX11_look_125 : decode cX11_look 125 = .ok (.irem, 1) := by decide +kernel
theorem dX11_look_126 : decode cX11_look 126 = .ok (.iadd, 1) := by decide +kernel
theorem dX11_look_127 : decode cX11_look 127 = .ok (.istore 8, 2) := by decide +kernel
theorem dX11_look_129 : decode cX11_look 129 = .ok (.aload_n 0, 1) := by decide +kernel
theorem dX11_look_130 : decode cX11_look 130 = .ok (.getfield 104, 3) := by decide +kernel
theorem dX11_look_133 : decode cX11_look 133 = .ok (.iload 8, 2) := by decide +kernel
theorem dX11_look_135 : decode cX11_look 135 = .ok (.baload, 1) := by decide +kernel
theorem dX11_look_136 : decode cX11_look 136 = .ok (.ifCond .ne 6, 3) := by decide +kernel
theorem dX11_look_139 : decode cX11_look 139 = .ok (.goto 55, 3) := by decide +kernel
theorem dX11_look_142 : decode cX11_look 142 = .ok (.aload_n 0, 1) := by decide +kernel
theorem dX11_look_143 : decode cX11_look 143 = .ok (.getfield 101, 3) := by decide +kernel
theorem dX11_look_146 : decode cX11_look 146 = .ok (.bipush 24, 2) := by decide +kernel
theorem dX11_look_148 : decode cX11_look 148 = .ok (.iload 8, 2) := by decide +kernel
theorem dX11_look_150 : decode cX11_look 150 = .ok (.imul, 1) := by decide +kernel
theorem dX11_look_151 : decode cX11_look 151 = .ok (.iload 5, 2) := by decide +kernel
theorem dX11_look_153 : decode cX11_look 153 = .ok (.iadd, 1) := by decide +kernel
theorem dX11_look_154 : decode cX11_look 154 = .ok (.iaload, 1) := by decide +kernel
theorem dX11_look_155 : decode cX11_look 155 = .ok (.istore 9, 2) := by decide +kernel
theorem dX11_look_157 : decode cX11_look 157 = .ok (.aload_n 0, 1) := by decide +kernel
theorem dX11_look_158 : decode cX11_look 158 = .ok (.getfield 108, 3) := by decide +kernel
theorem dX11_look_161 : decode cX11_look 161 = .ok (.iload 9, 2) := by decide +kernel
theorem dX11_look_163 : decode cX11_look 163 = .ok (.dup2, 1) := by decide +kernel
theorem dX11_look_164 : decode cX11_look 164 = .ok (.iaload, 1) := by decide +kernel
theorem dX11_look_165 : decode cX11_look 165 = .ok (.iconst 1, 1) := by decide +kernel
theorem dX11_look_166 : decode cX11_look 166 = .ok (.iadd, 1) := by decide +kernel
theorem dX11_look_167 : decode cX11_look 167 = .ok (.iastore, 1) := by decide +kernel
theorem dX11_look_168 : decode cX11_look 168 = .ok (.aload_n 0, 1) := by decide +kernel
theorem dX11_look_169 : decode cX11_look 169 = .ok (.getfield 108, 3) := by decide +kernel
theorem dX11_look_172 : decode cX11_look 172 = .ok (.iload 9, 2) := by decide +kernel
theorem dX11_look_174 : decode cX11_look 174 = .ok (.iaload, 1) := by decide +kernel
theorem dX11_look_175 : decode cX11_look 175 = .ok (.iload 6, 2) := by decide +kernel
theorem dX11_look_177 : decode cX11_look 177 = .ok (.if_icmp .le 13, 3) := by decide +kernel
theorem dX11_look_180 : decode cX11_look 180 = .ok (.aload_n 0, 1) := by decide +kernel
theorem dX11_look_181 : decode cX11_look 181 = .ok (.getfield 108, 3) := by decide +kernel
theorem dX11_look_184 : decode cX11_look 184 = .ok (.iload 9, 2) := by decide +kernel
theorem dX11_look_186 : decode cX11_look 186 = .ok (.iaload, 1) := by decide +kernel
theorem dX11_look_187 : decode cX11_look 187 = .ok (.goto 5, 3) := by decide +kernel
theorem dX11_look_190 : decode cX11_look 190 = .ok (.iload 6, 2) := by decide +kernel
theorem dX11_look_192 : decode cX11_look 192 = .ok (.istore 6, 2) := by decide +kernel
theorem dX11_look_194 : decode cX11_look 194 = .ok (.iinc 7 1, 3) := by decide +kernel
theorem dX11_look_197 : decode cX11_look 197 = .ok (.goto (-102), 3) := by decide +kernel
theorem dX11_look_200 : decode cX11_look 200 = .ok (.iload_n 3, 1) := by decide +kernel
theorem dX11_look_201 : decode cX11_look 201 = .ok (.iconst (-1), 1) := by decide +kernel
theorem dX11_look_202 : decode cX11_look 202 = .ok (.if_icmp .eq 13, 3) := by decide +kernel
theorem dX11_look_205 : decode cX11_look 205 = .ok (.iload 6, 2) := by decide +kernel
theorem dX11_look_207 : decode cX11_look 207 = .ok (.iload 4, 2) := by decide +kernel
theorem dX11_look_209 : decode cX11_look 209 = .ok (.if_icmp .lt 6, 3) := by decide +kernel
theorem dX11_look_212 : decode cX11_look 212 = .ok (.goto 10, 3) := by decide +kernel
theorem dX11_look_215 : decode cX11_look 215 = .ok (.iload 5, 2) := by decide +kernel
theorem dX11_look_217 : decode cX11_look 217 = .ok (.istore_n 3, 1) := by decide +kernel
theorem dX11_look_218 : decode cX11_look 218 = .ok (.iload 6, 2) := by decide +kernel
theorem dX11_look_220 : decode cX11_look 220 = .ok (.istore 4, 2) := by decide +kernel
theorem dX11_look_222 : decode cX11_look 222 = .ok (.iinc 5 1, 3) := by decide +kernel
theorem dX11_look_225 : decode cX11_look 225 = .ok (.goto (-181), 3) := by decide +kernel
theorem dX11_look_228 : decode cX11_look 228 = .ok (.iload_n 2, 1) := by decide +kernel
theorem dX11_look_229 : decode cX11_look 229 = .ok (.ifCond .ne 7, 3) := by decide +kernel
theorem dX11_look_232 : decode cX11_look 232 = .ok (.iload_n 3, 1) := by decide +kernel
theorem dX11_look_233 : decode cX11_look 233 = .ok (.goto 5, 3) := by decide +kernel
theorem dX11_look_236 : decode cX11_look 236 = .ok (.iload 4, 2) := by decide +kernel
theorem dX11_look_238 : decode cX11_look 238 = .ok (.ireturn, 1) := by decide +kernel
theorem dX11_fleet_0 : decode cX11_fleet 0 = .ok (.aload_n 0, 1) := by decide +kernel
theorem dX11_fleet_1 : decode cX11_fleet 1 = .ok (.iconst 0, 1) := by decide +kernel
theorem dX11_fleet_2 : decode cX11_fleet 2 = .ok (.putfield 3, 3) := by decide +kernel
theorem dX11_fleet_5 : decode cX11_fleet 5 = .ok (.aload_n 0, 1) := by decide +kernel
theorem dX11_fleet_6 : decode cX11_fleet 6 = .ok (.iload_n 1, 1) := by decide +kernel
theorem dX11_fleet_7 : decode cX11_fleet 7 = .ok (.iconst 1, 1) := by decide +kernel
theorem dX11_fleet_8 : decode cX11_fleet 8 = .ok (.invokevirtual 401, 3) := by decide +kernel
theorem dX11_fleet_11 : decode cX11_fleet 11 = .ok (.ifCond .eq 19, 3) := by decide +kernel
theorem dX11_fleet_14 : decode cX11_fleet 14 = .ok (.aload_n 0, 1) := by decide +kernel
theorem dX11_fleet_15 : decode cX11_fleet 15 = .ok (.iload_n 2, 1) := by decide +kernel
theorem dX11_fleet_16 : decode cX11_fleet 16 = .ok (.iconst 0, 1) := by decide +kernel
theorem dX11_fleet_17 : decode cX11_fleet 17 = .ok (.bipush 99, 2) := by decide +kernel
theorem dX11_fleet_19 : decode cX11_fleet 19 = .ok (.invokestatic 383, 3) := by decide +kernel
theorem dX11_fleet_22 : decode cX11_fleet 22 = .ok (.iconst 2, 1) := by decide +kernel
theorem dX11_fleet_23 : decode cX11_fleet 23 = .ok (.iconst 1, 1) := by decide +kernel
theorem dX11_fleet_24 : decode cX11_fleet 24 = .ok (.invokevirtual 216, 3) := by decide +kernel
theorem dX11_fleet_27 : decode cX11_fleet 27 = .ok (.ifCond .ne 5, 3) := by decide +kernel
theorem dX11_fleet_30 : decode cX11_fleet 30 = .ok (.iconst 0, 1) := by decide +kernel
theorem dX11_fleet_31 : decode cX11_fleet 31 = .ok (.ireturn, 1) := by decide +kernel
theorem dX11_fleet_32 : decode cX11_fleet 32 = .ok (.iconst (-1), 1) := by decide +kernel
theorem dX11_fleet_33 : decode cX11_fleet 33 = .ok (.istore_n 3, 1) := by decide +kernel
theorem dX11_fleet_34 : decode cX11_fleet 34 = .ok (.iconst 0, 1) := by decide +kernel
theorem dX11_fleet_35 : decode cX11_fleet 35 = .ok (.istore 4, 2) := by decide +kernel
theorem dX11_fleet_37 : decode cX11_fleet 37 = .ok (.iload 4, 2) := by decide +kernel
theorem dX11_fleet_39 : decode cX11_fleet 39 = .ok (.iconst 1, 1) := by decide +kernel
theorem dX11_fleet_40 : decode cX11_fleet 40 = .ok (.aload_n 0, 1) := by decide +kernel
theorem dX11_fleet_41 : decode cX11_fleet 41 = .ok (.getfield 181, 3) := by decide +kernel
theorem dX11_fleet_44 : decode cX11_fleet 44 = .ok (.ishl, 1) := by decide +kernel
theorem dX11_fleet_45 : decode cX11_fleet 45 = .ok (.if_icmp .ge 153, 3) := by decide +kernel
theorem dX11_fleet_48 : decode cX11_fleet 48 = .ok (.iconst 0, 1) := by decide +kernel
theorem dX11_fleet_49 : decode cX11_fleet 49 = .ok (.istore 5, 2) := by decide +kernel
theorem dX11_fleet_51 : decode cX11_fleet 51 = .ok (.iconst 1, 1) := by decide +kernel
theorem dX11_fleet_52 : decode cX11_fleet 52 = .ok (.istore 6, 2) := by decide +kernel
theorem dX11_fleet_54 : decode cX11_fleet 54 = .ok (.iconst 0, 1) := by decide +kernel
theorem dX11_fleet_55 : decode cX11_fleet 55 = .ok (.istore 7, 2) := by decide +kernel
theorem dX11_fleet_57 : decode cX11_fleet 57 = .ok (.iload 7, 2) := by decide +kernel
theorem dX11_fleet_59 : decode cX11_fleet 59 = .ok (.aload_n 0, 1) := by decide +kernel
theorem dX11_fleet_60 : decode cX11_fleet 60 = .ok (.getfield 181, 3) := by decide +kernel
theorem dX11_fleet_63 : decode cX11_fleet 63 = .ok (.if_icmp .ge 98, 3) := by decide +kernel
theorem dX11_fleet_66 : decode cX11_fleet 66 = .ok (.iload 4, 2) := by decide +kernel
theorem dX11_fleet_68 : decode cX11_fleet 68 = .ok (.iload 7, 2) := by decide +kernel
theorem dX11_fleet_70 : decode cX11_fleet 70 = .ok (.ishr, 1) := by decide +kernel
theorem dX11_fleet_71 : decode cX11_fleet 71 = .ok (.iconst 1, 1) := by decide +kernel
theorem dX11_fleet_72 : decode cX11_fleet 72 = .ok (.iand, 1) := by decide +kernel
theorem dX11_fleet_73 : decode cX11_fleet 73 = .ok (.ifCond .ne 6, 3) := by decide +kernel
theorem dX11_fleet_76 : decode cX11_fleet 76 = .ok (.goto 79, 3) := by decide +kernel
theorem dX11_fleet_79 : decode cX11_fleet 79 = .ok (.iload 6, 2) := by decide +kernel
theorem dX11_fleet_81 : decode cX11_fleet 81 = .ok (.ifCond .eq 34, 3) := by decide +kernel
theorem dX11_fleet_84 : decode cX11_fleet 84 = .ok (.aload_n 0, 1) := by decide +kernel
theorem dX11_fleet_85 : decode cX11_fleet 85 = .ok (.getfield 71, 3) := by decide +kernel
theorem dX11_fleet_88 : decode cX11_fleet 88 = .ok (.bipush 30, 2) := by decide +kernel
theorem dX11_fleet_90 : decode cX11_fleet 90 = .ok (.iload 7, 2) := by decide +kernel
theorem dX11_fleet_92 : decode cX11_fleet 92 = .ok (.iadd, 1) := by decide +kernel
theorem dX11_fleet_93 : decode cX11_fleet 93 = .ok (.iaload, 1) := by decide +kernel
theorem dX11_fleet_94 : decode cX11_fleet 94 = .ok (.iconst 1, 1) := by decide +kernel
theorem dX11_fleet_95 : decode cX11_fleet 95 = .ok (.if_icmp .ne 20, 3) := by decide +kernel
theorem dX11_fleet_98 : decode cX11_fleet 98 = .ok (.aload_n 0, 1) := by decide +kernel
theorem dX11_fleet_99 : decode cX11_fleet 99 = .ok (.getfield 71, 3) := by decide +kernel
theorem dX11_fleet_102 : decode cX11_fleet 102 = .ok (.iconst 0, 1) := by decide +kernel
theorem dX11_fleet_103 : decode cX11_fleet 103 = .ok (.iload 7, 2) := by decide +kernel
theorem dX11_fleet_105 : decode cX11_fleet 105 = .ok (.iadd, 1) := by decide +kernel
theorem dX11_fleet_106 : decode cX11_fleet 106 = .ok (.iaload, 1) := by decide +kernel
theorem dX11_fleet_107 : decode cX11_fleet 107 = .ok (.iconst (-1), 1) := by decide +kernel
theorem dX11_fleet_108 : decode cX11_fleet 108 = .ok (.if_icmp .eq 7, 3) := by decide +kernel
theorem dX11_fleet_111 : decode cX11_fleet 111 = .ok (.iconst 1, 1) := by decide +kernel
theorem dX11_fleet_112 : decode cX11_fleet 112 = .ok (.goto 4, 3) := by decide +kernel
theorem dX11_fleet_115 : decode cX11_fleet 115 = .ok (.iconst 0, 1) := by decide +kernel
theorem dX11_fleet_116 : decode cX11_fleet 116 = .ok (.istore 6, 2) := by decide +kernel
theorem dX11_fleet_118 : decode cX11_fleet 118 = .ok (.iload 5, 2) := by decide +kernel
theorem dX11_fleet_120 : decode cX11_fleet 120 = .ok (.iload 6, 2) := by decide +kernel
theorem dX11_fleet_122 : decode cX11_fleet 122 = .ok (.ifCond .eq 29, 3) := by decide +kernel
theorem dX11_fleet_125 : decode cX11_fleet 125 = .ok (.bipush 9, 2) := by decide +kernel
theorem dX11_fleet_127 : decode cX11_fleet 127 = .ok (.aload_n 0, 1) := by decide +kernel
theorem dX11_fleet_128 : decode cX11_fleet 128 = .ok (.iload 7, 2) := by decide +kernel
theorem dX11_fleet_130 : decode cX11_fleet 130 = .ok (.aload_n 0, 1) := by decide +kernel
theorem dX11_fleet_131 : decode cX11_fleet 131 = .ok (.getfield 71, 3) := by decide +kernel
theorem dX11_fleet_134 : decode cX11_fleet 134 = .ok (.iconst 0, 1) := by decide +kernel
theorem dX11_fleet_135 : decode cX11_fleet 135 = .ok (.iload 7, 2) := by decide +kernel
theorem dX11_fleet_137 : decode cX11_fleet 137 = .ok (.iadd, 1) := by decide +kernel
theorem dX11_fleet_138 : decode cX11_fleet 138 = .ok (.iaload, 1) := by decide +kernel
theorem dX11_fleet_139 : decode cX11_fleet 139 = .ok (.iload_n 1, 1) := by decide +kernel
theorem dX11_fleet_140 : decode cX11_fleet 140 = .ok (.iconst 1, 1) := by decide +kernel
theorem dX11_fleet_141 : decode cX11_fleet 141 = .ok (.invokevirtual 411, 3) := by decide +kernel
theorem dX11_fleet_144 : decode cX11_fleet 144 = .ok (.bipush 10, 2) := by decide +kernel
theorem dX11_fleet_146 : decode cX11_fleet 146 = .ok (.idiv, 1) := by decide +kernel
theorem dX11_fleet_147 : decode cX11_fleet 147 = .ok (.isub, 1) := by decide +kernel
theorem dX11_fleet_148 : decode cX11_fleet 148 = .ok (.goto 4, 3) := by decide +kernel
theorem dX11_fleet_151 : decode cX11_fleet 151 = .ok (.iconst 0, 1) := by decide +kernel
theorem dX11_fleet_152 : decode cX11_fleet 152 = .ok (.iadd, 1) := by decide +kernel
theorem dX11_fleet_153 : decode cX11_fleet 153 = .ok (.istore 5, 2) := by decide +kernel
theorem dX11_fleet_155 : decode cX11_fleet 155 = .ok (.iinc 7 1, 3) := by decide +kernel
theorem dX11_fleet_158 : decode cX11_fleet 158 = .ok (.goto (-101), 3) := by decide +kernel
theorem dX11_fleet_161 : decode cX11_fleet 161 = .ok (.iload 6, 2) := by decide +kernel
theorem dX11_fleet_163 : decode cX11_fleet 163 = .ok (.ifCond .eq 29, 3) := by decide +kernel
theorem dX11_fleet_166 : decode cX11_fleet 166 = .ok (.iload 5, 2) := by decide +kernel
theorem dX11_fleet_168 : decode cX11_fleet 168 = .ok (.iload_n 2, 1) := by decide +kernel
theorem dX11_fleet_169 : decode cX11_fleet 169 = .ok (.if_icmp .lt 23, 3) := by decide +kernel
theorem dX11_fleet_172 : decode cX11_fleet 172 = .ok (.iload_n 3, 1) := by decide +kernel
theorem dX11_fleet_173 : decode cX11_fleet 173 = .ok (.iconst (-1), 1) := by decide +kernel
theorem dX11_fleet_174 : decode cX11_fleet 174 = .ok (.if_icmp .eq 15, 3) := by decide +kernel
theorem dX11_fleet_177 : decode cX11_fleet 177 = .ok (.iload 4, 2) := by decide +kernel
theorem dX11_fleet_179 : decode cX11_fleet 179 = .ok (.invokestatic 354, 3) := by decide +kernel
theorem dX11_fleet_182 : decode cX11_fleet 182 = .ok (.iload_n 3, 1) := by decide +kernel
theorem dX11_fleet_183 : decode cX11_fleet 183 = .ok (.invokestatic 354, 3) := by decide +kernel
theorem dX11_fleet_186 : decode cX11_fleet 186 = .ok (.if_icmp .ge 6, 3) := by decide +kernel
theorem dX11_fleet_189 : decode cX11_fleet 189 = .ok (.iload 4, 2) := by decide +kernel
theorem dX11_fleet_191 : decode cX11_fleet 191 = .ok (.istore_n 3, 1) := by decide +kernel
theorem dX11_fleet_192 : decode cX11_fleet 192 = .ok (.iinc 4 1, 3) := by decide +kernel
theorem dX11_fleet_195 : decode cX11_fleet 195 = .ok (.goto (-158), 3) := by decide +kernel
theorem dX11_fleet_198 : decode cX11_fleet 198 = .ok (.iload_n 3, 1) := by decide +kernel
theorem dX11_fleet_199 : decode cX11_fleet 199 = .ok (.ireturn, 1) := by decide +kernel
theorem dX11_least_0 : decode cX11_least 0 = .ok (.lload_n 0, 1) := by decide +kernel
theorem dX11_least_1 : decode cX11_least 1 = .ok (.lstore 5, 2) := by decide +kernel
theorem dX11_least_3 : decode cX11_least 3 = .ok (.lload_n 2, 1) := by decide +kernel
theorem dX11_least_4 : decode cX11_least 4 = .ok (.lstore 7, 2) := by decide +kernel
theorem dX11_least_6 : decode cX11_least 6 = .ok (.lload 7, 2) := by decide +kernel
theorem dX11_least_8 : decode cX11_least 8 = .ok (.lconst 0, 1) := by decide +kernel
theorem dX11_least_9 : decode cX11_least 9 = .ok (.lcmp, 1) := by decide +kernel
theorem dX11_least_10 : decode cX11_least 10 = .ok (.ifCond .eq 21, 3) := by decide +kernel
theorem dX11_least_13 : decode cX11_least 13 = .ok (.lload 5, 2) := by decide +kernel
theorem dX11_least_15 : decode cX11_least 15 = .ok (.lload 7, 2) := by decide +kernel
theorem dX11_least_17 : decode cX11_least 17 = .ok (.lrem, 1) := by decide +kernel
theorem dX11_least_18 : decode cX11_least 18 = .ok (.lstore 9, 2) := by decide +kernel
theorem dX11_least_20 : decode cX11_least 20 = .ok (.lload 7, 2) := by decide +kernel
theorem dX11_least_22 : decode cX11_least 22 = .ok (.lstore 5, 2) := by decide +kernel
theorem dX11_least_24 : decode cX11_least 24 = .ok (.lload 9, 2) := by decide +kernel
theorem dX11_least_26 : decode cX11_least 26 = .ok (.lstore 7, 2) := by decide +kernel
theorem dX11_least_28 : decode cX11_least 28 = .ok (.goto (-22), 3) := by decide +kernel
theorem dX11_least_31 : decode cX11_least 31 = .ok (.iload 4, 2) := by decide +kernel
theorem dX11_least_33 : decode cX11_least 33 = .ok (.ifCond .ne 7, 3) := by decide +kernel
theorem dX11_least_36 : decode cX11_least 36 = .ok (.lload_n 0, 1) := by decide +kernel
theorem dX11_least_37 : decode cX11_least 37 = .ok (.goto 4, 3) := by decide +kernel
theorem dX11_least_40 : decode cX11_least 40 = .ok (.lload_n 2, 1) := by decide +kernel
theorem dX11_least_41 : decode cX11_least 41 = .ok (.lload 5, 2) := by decide +kernel
theorem dX11_least_43 : decode cX11_least 43 = .ok (.ldiv, 1) := by decide +kernel
theorem dX11_least_44 : decode cX11_least 44 = .ok (.lreturn, 1) := by decide +kernel
theorem dX11_squall_0 : decode cX11_squall 0 = .ok (.aload_n 0, 1) := by decide +kernel
theorem dX11_squall_1 : decode cX11_squall 1 = .ok (.iconst 0, 1) := by decide +kernel
theorem dX11_squall_2 : decode cX11_squall 2 = .ok (.putfield 3, 3) := by decide +kernel
theorem dX11_squall_5 : decode cX11_squall 5 = .ok (.aload_n 0, 1) := by decide +kernel
theorem dX11_squall_6 : decode cX11_squall 6 = .ok (.iload_n 1, 1) := by decide +kernel
theorem dX11_squall_7 : decode cX11_squall 7 = .ok (.iconst 0, 1) := by decide +kernel
theorem dX11_squall_8 : decode cX11_squall 8 = .ok (.bipush 16, 2) := by decide +kernel
theorem dX11_squall_10 : decode cX11_squall 10 = .ok (.invokestatic 383, 3) := by decide +kernel
theorem dX11_squall_13 : decode cX11_squall 13 = .ok (.ifCond .eq 26, 3) := by decide +kernel
theorem dX11_squall_16 : decode cX11_squall 16 = .ok (.iload_n 2, 1) := by decide +kernel
theorem dX11_squall_17 : decode cX11_squall 17 = .ok (.iconst 0, 1) := by decide +kernel
theorem dX11_squall_18 : decode cX11_squall 18 = .ok (.bipush 12, 2) := by decide +kernel
theorem dX11_squall_20 : decode cX11_squall 20 = .ok (.invokestatic 383, 3) := by decide +kernel
theorem dX11_squall_23 : decode cX11_squall 23 = .ok (.ifCond .eq 16, 3) := by decide +kernel
theorem dX11_squall_26 : decode cX11_squall 26 = .ok (.iload_n 3, 1) := by decide +kernel
theorem dX11_squall_27 : decode cX11_squall 27 = .ok (.iconst 0, 1) := by decide +kernel
theorem dX11_squall_28 : decode cX11_squall 28 = .ok (.iconst 1, 1) := by decide +kernel
theorem dX11_squall_29 : decode cX11_squall 29 = .ok (.invokestatic 383, 3) := by decide +kernel
theorem dX11_squall_32 : decode cX11_squall 32 = .ok (.ifCond .eq 7, 3) := by decide +kernel
theorem dX11_squall_35 : decode cX11_squall 35 = .ok (.iconst 1, 1) := by decide +kernel
theorem dX11_squall_36 : decode cX11_squall 36 = .ok (.goto 4, 3) := by decide +kernel
theorem dX11_squall_39 : decode cX11_squall 39 = .ok (.iconst 0, 1) := by decide +kernel
theorem dX11_squall_40 : decode cX11_squall 40 = .ok (.iconst 1, 1) := by decide +kernel
theorem dX11_squall_41 : decode cX11_squall 41 = .ok (.iconst 1, 1) := by decide +kernel
theorem dX11_squall_42 : decode cX11_squall 42 = .ok (.invokevirtual 216, 3) := by decide +kernel
theorem dX11_squall_45 : decode cX11_squall 45 = .ok (.ifCond .ne 5, 3) := by decide +kernel
theorem dX11_squall_48 : decode cX11_squall 48 = .ok (.lconst 0, 1) := by decide +kernel
theorem dX11_squall_49 : decode cX11_squall 49 = .ok (.lreturn, 1) := by decide +kernel
theorem dX11_squall_50 : decode cX11_squall 50 = .ok (.lconst 1, 1) := by decide +kernel
theorem dX11_squall_51 : decode cX11_squall 51 = .ok (.lstore 4, 2) := by decide +kernel
theorem dX11_squall_53 : decode cX11_squall 53 = .ok (.lconst 0, 1) := by decide +kernel
theorem dX11_squall_54 : decode cX11_squall 54 = .ok (.lstore 6, 2) := by decide +kernel
theorem dX11_squall_56 : decode cX11_squall 56 = .ok (.lconst 1, 1) := by decide +kernel
theorem dX11_squall_57 : decode cX11_squall 57 = .ok (.lstore 8, 2) := by decide +kernel
theorem dX11_squall_59 : decode cX11_squall 59 = .ok (.iconst 0, 1) := by decide +kernel
theorem dX11_squall_60 : decode cX11_squall 60 = .ok (.istore 10, 2) := by decide +kernel
theorem dX11_squall_62 : decode cX11_squall 62 = .ok (.iload 10, 2) := by decide +kernel
theorem dX11_squall_64 : decode cX11_squall 64 = .ok (.iload_n 2, 1) := by decide +kernel
theorem dX11_squall_65 : decode cX11_squall 65 = .ok (.if_icmp .ge 43, 3) := by decide +kernel
theorem dX11_squall_68 : decode cX11_squall 68 = .ok (.lload 6, 2) := by decide +kernel
theorem dX11_squall_70 : decode cX11_squall 70 = .ok (.bipush 16, 2) := by decide +kernel
theorem dX11_squall_72 : decode cX11_squall 72 = .ok (.iload_n 1, 1) := by decide +kernel
theorem dX11_squall_73 : decode cX11_squall 73 = .ok (.isub, 1) := by decide +kernel
theorem dX11_squall_74 : decode cX11_squall 74 = .ok (.i2l, 1) := by decide +kernel
theorem dX11_squall_75 : decode cX11_squall 75 = .ok (.lmul, 1) := by decide +kernel
theorem dX11_squall_76 : decode cX11_squall 76 = .ok (.lload 4, 2) := by decide +kernel
theorem dX11_squall_78 : decode cX11_squall 78 = .ok (.iload_n 1, 1) := by decide +kernel
theorem dX11_squall_79 : decode cX11_squall 79 = .ok (.i2l, 1) := by decide +kernel
theorem dX11_squall_80 : decode cX11_squall 80 = .ok (.lmul, 1) := by decide +kernel
theorem dX11_squall_81 : decode cX11_squall 81 = .ok (.ladd, 1) := by decide +kernel
theorem dX11_squall_82 : decode cX11_squall 82 = .ok (.lstore 6, 2) := by decide +kernel
theorem dX11_squall_84 : decode cX11_squall 84 = .ok (.lload 4, 2) := by decide +kernel
theorem dX11_squall_86 : decode cX11_squall 86 = .ok (.bipush 16, 2) := by decide +kernel
theorem dX11_squall_88 : decode cX11_squall 88 = .ok (.iload_n 1, 1) := by decide +kernel
theorem dX11_squall_89 : decode cX11_squall 89 = .ok (.isub, 1) := by decide +kernel
theorem dX11_squall_90 : decode cX11_squall 90 = .ok (.i2l, 1) := by decide +kernel
theorem dX11_squall_91 : decode cX11_squall 91 = .ok (.lmul, 1) := by decide +kernel
theorem dX11_squall_92 : decode cX11_squall 92 = .ok (.lstore 4, 2) := by decide +kernel
theorem dX11_squall_94 : decode cX11_squall 94 = .ok (.lload 8, 2) := by decide +kernel
theorem dX11_squall_96 : decode cX11_squall 96 = .ok (.ldc2_w 431, 3) := by decide +kernel
theorem dX11_squall_99 : decode cX11_squall 99 = .ok (.lmul, 1) := by decide +kernel
theorem dX11_squall_100 : decode cX11_squall 100 = .ok (.lstore 8, 2) := by decide +kernel
theorem dX11_squall_102 : decode cX11_squall 102 = .ok (.iinc 10 1, 3) := by decide +kernel
theorem dX11_squall_105 : decode cX11_squall 105 = .ok (.goto (-43), 3) := by decide +kernel
theorem dX11_squall_108 : decode cX11_squall 108 = .ok (.lload 4, 2) := by decide +kernel
theorem dX11_squall_110 : decode cX11_squall 110 = .ok (.lload 6, 2) := by decide +kernel
theorem dX11_squall_112 : decode cX11_squall 112 = .ok (.ladd, 1) := by decide +kernel
theorem dX11_squall_113 : decode cX11_squall 113 = .ok (.lload 8, 2) := by decide +kernel
theorem dX11_squall_115 : decode cX11_squall 115 = .ok (.iload_n 3, 1) := by decide +kernel
theorem dX11_squall_116 : decode cX11_squall 116 = .ok (.invokestatic 433, 3) := by decide +kernel
theorem dX11_squall_119 : decode cX11_squall 119 = .ok (.lreturn, 1) := by decide +kernel
theorem dX11_hasBy_0 : decode cX11_hasBy 0 = .ok (.iload_n 0, 1) := by decide +kernel
theorem dX11_hasBy_1 : decode cX11_hasBy 1 = .ok (.iload_n 1, 1) := by decide +kernel
theorem dX11_hasBy_2 : decode cX11_hasBy 2 = .ok (.if_icmp .ne 15, 3) := by decide +kernel
theorem dX11_hasBy_5 : decode cX11_hasBy 5 = .ok (.iload_n 0, 1) := by decide +kernel
theorem dX11_hasBy_6 : decode cX11_hasBy 6 = .ok (.ifCond .ne 7, 3) := by decide +kernel
theorem dX11_hasBy_9 : decode cX11_hasBy 9 = .ok (.iload_n 2, 1) := by decide +kernel
theorem dX11_hasBy_10 : decode cX11_hasBy 10 = .ok (.goto 18, 3) := by decide +kernel
theorem dX11_hasBy_13 : decode cX11_hasBy 13 = .ok (.iload_n 3, 1) := by decide +kernel
theorem dX11_hasBy_14 : decode cX11_hasBy 14 = .ok (.goto 14, 3) := by decide +kernel
theorem dX11_hasBy_17 : decode cX11_hasBy 17 = .ok (.iload_n 0, 1) := by decide +kernel
theorem dX11_hasBy_18 : decode cX11_hasBy 18 = .ok (.ifCond .ne 7, 3) := by decide +kernel
theorem dX11_hasBy_21 : decode cX11_hasBy 21 = .ok (.iload_n 3, 1) := by decide +kernel
theorem dX11_hasBy_22 : decode cX11_hasBy 22 = .ok (.goto 6, 3) := by decide +kernel
theorem dX11_hasBy_25 : decode cX11_hasBy 25 = .ok (.iload_n 2, 1) := by decide +kernel
theorem dX11_hasBy_26 : decode cX11_hasBy 26 = .ok (.iconst 2, 1) := by decide +kernel
theorem dX11_hasBy_27 : decode cX11_hasBy 27 = .ok (.idiv, 1) := by decide +kernel
theorem dX11_hasBy_28 : decode cX11_hasBy 28 = .ok (.ireturn, 1) := by decide +kernel
theorem dX11_two_0 : decode cX11_two 0 = .ok (.aload_n 0, 1) := by decide +kernel
theorem dX11_two_1 : decode cX11_two 1 = .ok (.iconst 0, 1) := by decide +kernel
theorem dX11_two_2 : decode cX11_two 2 = .ok (.putfield 3, 3) := by decide +kernel
theorem dX11_two_5 : decode cX11_two 5 = .ok (.aload_n 0, 1) := by decide +kernel
theorem dX11_two_6 : decode cX11_two 6 = .ok (.iload_n 1, 1) := by decide +kernel
theorem dX11_two_7 : decode cX11_two 7 = .ok (.iconst 0, 1) := by decide +kernel
theorem dX11_two_8 : decode cX11_two 8 = .ok (.bipush 99, 2) := by decide +kernel
theorem dX11_two_10 : decode cX11_two 10 = .ok (.invokestatic 383, 3) := by decide +kernel
theorem dX11_two_13 : decode cX11_two 13 = .ok (.ifCond .eq 26, 3) := by decide +kernel
theorem dX11_two_16 : decode cX11_two 16 = .ok (.iload_n 2, 1) := by decide +kernel
theorem dX11_two_17 : decode cX11_two 17 = .ok (.iconst 0, 1) := by decide +kernel
theorem dX11_two_18 : decode cX11_two 18 = .ok (.bipush 99, 2) := by decide +kernel
theorem dX11_two_20 : decode cX11_two 20 = .ok (.invokestatic 383, 3) := by decide +kernel
theorem dX11_two_23 : decode cX11_two 23 = .ok (.ifCond .eq 16, 3) := by decide +kernel
theorem dX11_two_26 : decode cX11_two 26 = .ok (.iload_n 3, 1) := by decide +kernel
theorem dX11_two_27 : decode cX11_two 27 = .ok (.iconst 0, 1) := by decide +kernel
theorem dX11_two_28 : decode cX11_two 28 = .ok (.iconst 2, 1) := by decide +kernel
theorem dX11_two_29 : decode cX11_two 29 = .ok (.invokestatic 383, 3) := by decide +kernel
theorem dX11_two_32 : decode cX11_two 32 = .ok (.ifCond .eq 7, 3) := by decide +kernel
theorem dX11_two_35 : decode cX11_two 35 = .ok (.iconst 1, 1) := by decide +kernel
theorem dX11_two_36 : decode cX11_two 36 = .ok (.goto 4, 3) := by decide +kernel
theorem dX11_two_39 : decode cX11_two 39 = .ok (.iconst 0, 1) := by decide +kernel
theorem dX11_two_40 : decode cX11_two 40 = .ok (.iconst 1, 1) := by decide +kernel
theorem dX11_two_41 : decode cX11_two 41 = .ok (.iconst 1, 1) := by decide +kernel
theorem dX11_two_42 : decode cX11_two 42 = .ok (.invokevirtual 216, 3) := by decide +kernel
theorem dX11_two_45 : decode cX11_two 45 = .ok (.ifCond .ne 5, 3) := by decide +kernel
theorem dX11_two_48 : decode cX11_two 48 = .ok (.iconst 0, 1) := by decide +kernel
theorem dX11_two_49 : decode cX11_two 49 = .ok (.ireturn, 1) := by decide +kernel
theorem dX11_two_50 : decode cX11_two 50 = .ok (.iconst 0, 1) := by decide +kernel
theorem dX11_two_51 : decode cX11_two 51 = .ok (.istore 4, 2) := by decide +kernel
theorem dX11_two_53 : decode cX11_two 53 = .ok (.iconst (-1), 1) := by decide +kernel
theorem dX11_two_54 : decode cX11_two 54 = .ok (.istore 5, 2) := by decide +kernel
theorem dX11_two_56 : decode cX11_two 56 = .ok (.iconst 0, 1) := by decide +kernel
theorem dX11_two_57 : decode cX11_two 57 = .ok (.istore 6, 2) := by decide +kernel
theorem dX11_two_59 : decode cX11_two 59 = .ok (.iload 6, 2) := by decide +kernel
theorem dX11_two_61 : decode cX11_two 61 = .ok (.iconst 4, 1) := by decide +kernel
theorem dX11_two_62 : decode cX11_two 62 = .ok (.if_icmp .ge 94, 3) := by decide +kernel
theorem dX11_two_65 : decode cX11_two 65 = .ok (.iload 6, 2) := by decide +kernel
theorem dX11_two_67 : decode cX11_two 67 = .ok (.iconst 2, 1) := by decide +kernel
theorem dX11_two_68 : decode cX11_two 68 = .ok (.idiv, 1) := by decide +kernel
theorem dX11_two_69 : decode cX11_two 69 = .ok (.istore 7, 2) := by decide +kernel
theorem dX11_two_71 : decode cX11_two 71 = .ok (.iload 6, 2) := by decide +kernel
theorem dX11_two_73 : decode cX11_two 73 = .ok (.iconst 2, 1) := by decide +kernel
theorem dX11_two_74 : decode cX11_two 74 = .ok (.irem, 1) := by decide +kernel
theorem dX11_two_75 : decode cX11_two 75 = .ok (.istore 8, 2) := by decide +kernel
theorem dX11_two_77 : decode cX11_two 77 = .ok (.iconst 1, 1) := by decide +kernel
theorem dX11_two_78 : decode cX11_two 78 = .ok (.iload 7, 2) := by decide +kernel
theorem dX11_two_80 : decode cX11_two 80 = .ok (.isub, 1) := by decide +kernel
theorem dX11_two_81 : decode cX11_two 81 = .ok (.iload 8, 2) := by decide +kernel
theorem dX11_two_83 : decode cX11_two 83 = .ok (.iload_n 1, 1) := by decide +kernel
theorem dX11_two_84 : decode cX11_two 84 = .ok (.iload_n 2, 1) := by decide +kernel
theorem dX11_two_85 : decode cX11_two 85 = .ok (.invokestatic 436, 3) := by decide +kernel
theorem dX11_two_88 : decode cX11_two 88 = .ok (.iload 7, 2) := by decide +kernel
