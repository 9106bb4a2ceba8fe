theorem dL_two_11 : decode cL_two 11 = .ok (.lastore, 1) := by decide +kernel
theorem dL_two_12 : decode cL_two 12 = .ok (.goto 7, 3) := by decide +kernel
theorem dL_two_15 : decode cL_two 15 = .ok (.astore 5, 2) := by decide +kernel
theorem dL_two_17 : decode cL_two 17 = .ok (.iconst 1, 1) := by decide +kernel
theorem dL_two_18 : decode cL_two 18 = .ok (.ireturn, 1) := by decide +kernel
theorem dL_two_19 : decode cL_two 19 = .ok (.iconst 0, 1) := by decide +kernel
theorem dL_two_20 : decode cL_two 20 = .ok (.ireturn, 1) := by decide +kernel
theorem dL_share_0 : decode cL_share 0 = .ok (.aload 4, 2) := by decide +kernel
theorem dL_share_2 : decode cL_share 2 = .ok (.iconst 0, 1) := by decide +kernel
theorem dL_share_3 : decode cL_share 3 = .ok (.aload_n 0, 1) := by decide +kernel
theorem dL_share_4 : decode cL_share 4 = .ok (.iload_n 1, 1) := by decide +kernel
theorem dL_share_5 : decode cL_share 5 = .ok (.iload_n 2, 1) := by decide +kernel
theorem dL_share_6 : decode cL_share 6 = .ok (.iload_n 3, 1) := by decide +kernel
theorem dL_share_7 : decode cL_share 7 = .ok (.invokevirtual 85, 3) := by decide +kernel
theorem dL_share_10 : decode cL_share 10 = .ok (.i2l, 1) := by decide +kernel
theorem dL_share_11 : decode cL_share 11 = .ok (.lastore, 1) := by decide +kernel
theorem dL_share_12 : decode cL_share 12 = .ok (.goto 11, 3) := by decide +kernel
theorem dL_share_15 : decode cL_share 15 = .ok (.astore 5, 2) := by decide +kernel
theorem dL_share_17 : decode cL_share 17 = .ok (.iconst 1, 1) := by decide +kernel
theorem dL_share_18 : decode cL_share 18 = .ok (.ireturn, 1) := by decide +kernel
theorem dL_share_19 : decode cL_share 19 = .ok (.astore 5, 2) := by decide +kernel
theorem dL_share_21 : decode cL_share 21 = .ok (.iconst 2, 1) := by decide +kernel
theorem dL_share_22 : decode cL_share 22 = .ok (.ireturn, 1) := by decide +kernel
theorem dL_share_23 : decode cL_share 23 = .ok (.iconst 0, 1) := by decide +kernel
theorem dL_share_24 : decode cL_share 24 = .ok (.ireturn, 1) := by decide +kernel
theorem dL_best_0 : decode cL_best 0 = .ok (.aload_n 2, 1) := by decide +kernel
theorem dL_best_1 : decode cL_best 1 = .ok (.iconst 0, 1) := by decide +kernel
theorem dL_best_2 : decode cL_best 2 = .ok (.aload_n 0, 1) := by decide +kernel
theorem dL_best_3 : decode cL_best 3 = .ok (.iload_n 1, 1) := by decide +kernel
theorem dL_best_4 : decode cL_best 4 = .ok (.invokevirtual 88, 3) := by decide +kernel
theorem dL_best_7 : decode cL_best 7 = .ok (.i2l, 1) := by decide +kernel
theorem dL_best_8 : decode cL_best 8 = .ok (.lastore, 1) := by decide +kernel
theorem dL_best_9 : decode cL_best 9 = .ok (.goto 6, 3) := by decide +kernel
theorem dL_best_12 : decode cL_best 12 = .ok (.astore_n 3, 1) := by decide +kernel
theorem dL_best_13 : decode cL_best 13 = .ok (.iconst 1, 1) := by decide +kernel
theorem dL_best_14 : decode cL_best 14 = .ok (.ireturn, 1) := by decide +kernel
theorem dL_best_15 : decode cL_best 15 = .ok (.iconst 0, 1) := by decide +kernel
theorem dL_best_16 : decode cL_best 16 = .ok (.ireturn, 1) := by decide +kernel
theorem dL_from_0 : decode cL_from 0 = .ok (.aload_n 2, 1) := by decide +kernel
theorem dL_from_1 : decode cL_from 1 = .ok (.iconst 0, 1) := by decide +kernel
theorem dL_from_2 : decode cL_from 2 = .ok (.aload_n 0, 1) := by decide +kernel
theorem dL_from_3 : decode cL_from 3 = .ok (.iload_n 1, 1) := by decide +kernel
theorem dL_from_4 : decode cL_from 4 = .ok (.invokevirtual 91, 3) := by decide +kernel
theorem dL_from_7 : decode cL_from 7 = .ok (.i2l, 1) := by decide +kernel
theorem dL_from_8 : decode cL_from 8 = .ok (.lastore, 1) := by decide +kernel
theorem dL_from_9 : decode cL_from 9 = .ok (.goto 6, 3) := by decide +kernel
theorem dL_from_12 : decode cL_from 12 = .ok (.astore_n 3, 1) := by decide +kernel
theorem dL_from_13 : decode cL_from 13 = .ok (.iconst 1, 1) := by decide +kernel
theorem dL_from_14 : decode cL_from 14 = .ok (.ireturn, 1) := by decide +kernel
theorem dL_from_15 : decode cL_from 15 = .ok (.iconst 0, 1) := by decide +kernel
theorem dL_from_16 : decode cL_from 16 = .ok (.ireturn, 1) := by decide +kernel
theorem dL_row_0 : decode cL_row 0 = .ok (.aload_n 2, 1) := by decide +kernel
theorem dL_row_1 : decode cL_row 1 = .ok (.iconst 0, 1) := by decide +kernel
theorem dL_row_2 : decode cL_row 2 = .ok (.aload_n 0, 1) := by decide +kernel
theorem dL_row_3 : decode cL_row 3 = .ok (.iload_n 1, 1) := by decide +kernel
theorem dL_row_4 : decode cL_row 4 = .ok (.invokevirtual 94, 3) := by decide +kernel
theorem dL_row_7 : decode cL_row 7 = .ok (.i2l, 1) := by decide +kernel
theorem dL_row_8 : decode cL_row 8 = .ok (.lastore, 1) := by decide +kernel
theorem dL_row_9 : decode cL_row 9 = .ok (.goto 6, 3) := by decide +kernel
theorem dL_row_12 : decode cL_row 12 = .ok (.astore_n 3, 1) := by decide +kernel
theorem dL_row_13 : decode cL_row 13 = .ok (.iconst 1, 1) := by decide +kernel
theorem dL_row_14 : decode cL_row 14 = .ok (.ireturn, 1) := by decide +kernel
theorem dL_row_15 : decode cL_row 15 = .ok (.iconst 0, 1) := by decide +kernel
theorem dL_row_16 : decode cL_row 16 = .ok (.ireturn, 1) := by decide +kernel
theorem dL_season_0 : decode cL_season 0 = .ok (.aload 5, 2) := by decide +kernel
theorem dL_season_2 : decode cL_season 2 = .ok (.iconst 0, 1) := by decide +kernel
theorem dL_season_3 : decode cL_season 3 = .ok (.aload_n 0, 1) := by decide +kernel
theorem dL_season_4 : decode cL_season 4 = .ok (.iload_n 1, 1) := by decide +kernel
theorem dL_season_5 : decode cL_season 5 = .ok (.iload_n 2, 1) := by decide +kernel
theorem dL_season_6 : decode cL_season 6 = .ok (.iload_n 3, 1) := by decide +kernel
theorem dL_season_7 : decode cL_season 7 = .ok (.iload 4, 2) := by decide +kernel
theorem dL_season_9 : decode cL_season 9 = .ok (.invokevirtual 97, 3) := by decide +kernel
theorem dL_season_12 : decode cL_season 12 = .ok (.i2l, 1) := by decide +kernel
theorem dL_season_13 : decode cL_season 13 = .ok (.lastore, 1) := by decide +kernel
theorem dL_season_14 : decode cL_season 14 = .ok (.goto 7, 3) := by decide +kernel
theorem dL_season_17 : decode cL_season 17 = .ok (.astore 6, 2) := by decide +kernel
theorem dL_season_19 : decode cL_season 19 = .ok (.iconst 1, 1) := by decide +kernel
theorem dL_season_20 : decode cL_season 20 = .ok (.ireturn, 1) := by decide +kernel
theorem dL_season_21 : decode cL_season 21 = .ok (.iconst 0, 1) := by decide +kernel
theorem dL_season_22 : decode cL_season 22 = .ok (.ireturn, 1) := by decide +kernel
theorem dL_span_0 : decode cL_span 0 = .ok (.aload 6, 2) := by decide +kernel
theorem dL_span_2 : decode cL_span 2 = .ok (.iconst 0, 1) := by decide +kernel
theorem dL_span_3 : decode cL_span 3 = .ok (.aload_n 0, 1) := by decide +kernel
theorem dL_span_4 : decode cL_span 4 = .ok (.iload_n 1, 1) := by decide +kernel
theorem dL_span_5 : decode cL_span 5 = .ok (.iload_n 2, 1) := by decide +kernel
theorem dL_span_6 : decode cL_span 6 = .ok (.iload_n 3, 1) := by decide +kernel
theorem dL_span_7 : decode cL_span 7 = .ok (.iload 4, 2) := by decide +kernel
theorem dL_span_9 : decode cL_span 9 = .ok (.iload 5, 2) := by decide +kernel
theorem dL_span_11 : decode cL_span 11 = .ok (.invokevirtual 100, 3) := by decide +kernel
theorem dL_span_14 : decode cL_span 14 = .ok (.i2l, 1) := by decide +kernel
theorem dL_span_15 : decode cL_span 15 = .ok (.lastore, 1) := by decide +kernel
theorem dL_span_16 : decode cL_span 16 = .ok (.goto 7, 3) := by decide +kernel
theorem dL_span_19 : decode cL_span 19 = .ok (.astore 7, 2) := by decide +kernel
theorem dL_span_21 : decode cL_span 21 = .ok (.iconst 1, 1) := by decide +kernel
theorem dL_span_22 : decode cL_span 22 = .ok (.ireturn, 1) := by decide +kernel
theorem dL_span_23 : decode cL_span 23 = .ok (.iconst 0, 1) := by decide +kernel
theorem dL_span_24 : decode cL_span 24 = .ok (.ireturn, 1) := by decide +kernel
theorem dL_law__0 : decode cL_law_ 0 = .ok (.new 8, 3) := by decide +kernel
theorem dL_law__3 : decode cL_law_ 3 = .ok (.dup, 1) := by decide +kernel
theorem dL_law__4 : decode cL_law_ 4 = .ok (.invokespecial 104, 3) := by decide +kernel
theorem dL_law__7 : decode cL_law_ 7 = .ok (.astore_n 1, 1) := by decide +kernel
theorem dL_law__8 : decode cL_law_ 8 = .ok (.new 105, 3) := by decide +kernel
theorem dL_law__11 : decode cL_law_ 11 = .ok (.dup, 1) := by decide +kernel
theorem dL_law__12 : decode cL_law_ 12 = .ok (.invokespecial 107, 3) := by decide +kernel
theorem dL_law__15 : decode cL_law_ 15 = .ok (.astore_n 2, 1) := by decide +kernel
theorem dL_law__16 : decode cL_law_ 16 = .ok (.iconst 1, 1) := by decide +kernel
theorem dL_law__17 : decode cL_law_ 17 = .ok (.newarray .long, 2) := by decide +kernel
theorem dL_law__19 : decode cL_law_ 19 = .ok (.astore_n 3, 1) := by decide +kernel
theorem dL_law__20 : decode cL_law_ 20 = .ok (.iconst 0, 1) := by decide +kernel
theorem dL_law__21 : decode cL_law_ 21 = .ok (.istore 4, 2) := by decide +kernel
theorem dL_law__23 : decode cL_law_ 23 = .ok (.iload 4, 2) := by decide +kernel
theorem dL_law__25 : decode cL_law_ 25 = .ok (.aload_n 0, 1) := by decide +kernel
theorem dL_law__26 : decode cL_law_ 26 = .ok (.arraylength, 1) := by decide +kernel
theorem dL_law__27 : decode cL_law_ 27 = .ok (.bipush 9, 2) := by decide +kernel
theorem dL_law__29 : decode cL_law_ 29 = .ok (.isub, 1) := by decide +kernel
theorem dL_law__30 : decode cL_law_ 30 = .ok (.if_icmp .gt 2328, 3) := by decide +kernel
theorem dL_law__33 : decode cL_law_ 33 = .ok (.aload_n 0, 1) := by decide +kernel
theorem dL_law__34 : decode cL_law_ 34 = .ok (.iload 4, 2) := by decide +kernel
theorem dL_law__36 : decode cL_law_ 36 = .ok (.iaload, 1) := by decide +kernel
theorem dL_law__37 : decode cL_law_ 37 = .ok (.bipush 63, 2) := by decide +kernel
theorem dL_law__39 : decode cL_law_ 39 = .ok (.iand, 1) := by decide +kernel
theorem dL_law__40 : decode cL_law_ 40 = .ok (.tableswitch 2312 0 34 #[156, 229, 285, 341, 397, 453, 466, 479, 535, 603, 671, 739, 795, 941, 1009, 1065, 1157, 1213, 1281, 1349, 1429, 1497, 1565, 1633, 1712, 1792, 1872, 1928, 1984, 2040, 2132, 2236, 2249, 2262, 2287], 156) := by decide +kernel
theorem dL_law__196 : decode cL_law_ 196 = .ok (.aload_n 1, 1) := by decide +kernel
theorem dL_law__197 : decode cL_law_ 197 = .ok (.aload_n 0, 1) := by decide +kernel
theorem dL_law__198 : decode cL_law_ 198 = .ok (.iload 4, 2) := by decide +kernel
theorem dL_law__200 : decode cL_law_ 200 = .ok (.iconst 1, 1) := by decide +kernel
theorem dL_law__201 : decode cL_law_ 201 = .ok (.iadd, 1) := by decide +kernel
theorem dL_law__202 : decode cL_law_ 202 = .ok (.iaload, 1) := by decide +kernel
theorem dL_law__203 : decode cL_law_ 203 = .ok (.aload_n 0, 1) := by decide +kernel
theorem dL_law__204 : decode cL_law_ 204 = .ok (.iload 4, 2) := by decide +kernel
theorem dL_law__206 : decode cL_law_ 206 = .ok (.iconst 2, 1) := by decide +kernel
theorem dL_law__207 : decode cL_law_ 207 = .ok (.iadd, 1) := by decide +kernel
theorem dL_law__208 : decode cL_law_ 208 = .ok (.iaload, 1) := by decide +kernel
theorem dL_law__209 : decode cL_law_ 209 = .ok (.aload_n 0, 1) := by decide +kernel
theorem dL_law__210 : decode cL_law_ 210 = .ok (.iload 4, 2) := by decide +kernel
theorem dL_law__212 : decode cL_law_ 212 = .ok (.iconst 3, 1) := by decide +kernel
theorem dL_law__213 : decode cL_law_ 213 = .ok (.iadd, 1) := by decide +kernel
theorem dL_law__214 : decode cL_law_ 214 = .ok (.iaload, 1) := by decide +kernel
theorem dL_law__215 : decode cL_law_ 215 = .ok (.aload_n 0, 1) := by decide +kernel
theorem dL_law__216 : decode cL_law_ 216 = .ok (.iload 4, 2) := by decide +kernel
theorem dL_law__218 : decode cL_law_ 218 = .ok (.iconst 4, 1) := by decide +kernel
theorem dL_law__219 : decode cL_law_ 219 = .ok (.iadd, 1) := by decide +kernel
theorem dL_law__220 : decode cL_law_ 220 = .ok (.iaload, 1) := by decide +kernel
theorem dL_law__221 : decode cL_law_ 221 = .ok (.aload_n 0, 1) := by decide +kernel
theorem dL_law__222 : decode cL_law_ 222 = .ok (.iload 4, 2) := by decide +kernel
theorem dL_law__224 : decode cL_law_ 224 = .ok (.iconst 5, 1) := by decide +kernel
theorem dL_law__225 : decode cL_law_ 225 = .ok (.iadd, 1) := by decide +kernel
theorem dL_law__226 : decode cL_law_ 226 = .ok (.iaload, 1) := by decide +kernel
theorem dL_law__227 : decode cL_law_ 227 = .ok (.invokevirtual 108, 3) := by decide +kernel
theorem dL_law__230 : decode cL_law_ 230 = .ok (.aload_n 2, 1) := by decide +kernel
theorem dL_law__231 : decode cL_law_ 231 = .ok (.aload_n 0, 1) := by decide +kernel
theorem dL_law__232 : decode cL_law_ 232 = .ok (.iload 4, 2) := by decide +kernel
theorem dL_law__234 : decode cL_law_ 234 = .ok (.iconst 1, 1) := by decide +kernel
theorem dL_law__235 : decode cL_law_ 235 = .ok (.iadd, 1) := by decide +kernel
theorem dL_law__236 : decode cL_law_ 236 = .ok (.iaload, 1) := by decide +kernel
theorem dL_law__237 : decode cL_law_ 237 = .ok (.aload_n 0, 1) := by decide +kernel
theorem dL_law__238 : decode cL_law_ 238 = .ok (.iload 4, 2) := by decide +kernel
theorem dL_law__240 : decode cL_law_ 240 = .ok (.iconst 2, 1) := by decide +kernel
theorem dL_law__241 : decode cL_law_ 241 = .ok (.iadd, 1) := by decide +kernel
theorem dL_law__242 : decode cL_law_ 242 = .ok (.iaload, 1) := by decide +kernel
theorem dL_law__243 : decode cL_law_ 243 = .ok (.aload_n 0, 1) := by decide +kernel
theorem dL_law__244 : decode cL_law_ 244 = .ok (.iload 4, 2) := by decide +kernel
theorem dL_law__246 : decode cL_law_ 246 = .ok (.iconst 3, 1) := by decide +kernel
theorem dL_law__247 : decode cL_law_ 247 = .ok (.iadd, 1) := by decide +kernel
theorem dL_law__248 : decode cL_law_ 248 = .ok (.iaload, 1) := by decide +kernel
theorem dL_law__249 : decode cL_law_ 249 = .ok (.aload_n 0, 1) := by decide +kernel
theorem dL_law__250 : decode cL_law_ 250 = .ok (.iload 4, 2) := by decide +kernel
theorem dL_law__252 : decode cL_law_ 252 = .ok (.iconst 4, 1) := by decide +kernel
theorem dL_law__253 : decode cL_law_ 253 = .ok (.iadd, 1) := by decide +kernel
theorem dL_law__254 : decode cL_law_ 254 = .ok (.iaload, 1) := by decide +kernel
theorem dL_law__255 : decode cL_law_ 255 = .ok (.aload_n 0, 1) := by decide +kernel
theorem dL_law__256 : decode cL_law_ 256 = .ok (.iload 4, 2) := by decide +kernel
theorem dL_law__258 : decode cL_law_ 258 = .ok (.iconst 5, 1) := by decide +kernel
theorem dL_law__259 : decode cL_law_ 259 = .ok (.iadd, 1) := by decide +kernel
theorem dL_law__260 : decode cL_law_ 260 = .ok (.iaload, 1) := by decide +kernel
theorem dL_law__261 : decode cL_law_ 261 = .ok (.invokevirtual 111, 3) := by decide +kernel
theorem dL_law__264 : decode cL_law_ 264 = .ok (.if_icmp .eq 2088, 3) := by decide +kernel
theorem dL_law__267 : decode cL_law_ 267 = .ok (.iconst 0, 1) := by decide +kernel
theorem dL_law__268 : decode cL_law_ 268 = .ok (.ireturn, 1) := by decide +kernel
theorem dL_law__269 : decode cL_law_ 269 = .ok (.aload_n 1, 1) := by decide +kernel
theorem dL_law__270 : decode cL_law_ 270 = .ok (.aload_n 0, 1) := by decide +kernel
theorem dL_law__271 : decode cL_law_ 271 = .ok (.iload 4, 2) := by decide +kernel
theorem dL_law__273 : decode cL_law_ 273 = .ok (.iconst 1, 1) := by decide +kernel
theorem dL_law__274 : decode cL_law_ 274 = .ok (.iadd, 1) := by decide +kernel
theorem dL_law__275 : decode cL_law_ 275 = .ok (.iaload, 1) := by decide +kernel
theorem dL_law__276 : decode cL_law_ 276 = .ok (.aload_n 3, 1) := by decide +kernel
theorem dL_law__277 : decode cL_law_ 277 = .ok (.invokestatic 112, 3) := by decide +kernel
theorem dL_law__280 : decode cL_law_ 280 = .ok (.istore 5, 2) := by decide +kernel
theorem dL_law__282 : decode cL_law_ 282 = .ok (.aload_n 2, 1) := by decide +kernel
theorem dL_law__283 : decode cL_law_ 283 = .ok (.aload_n 0, 1) := by decide +kernel
theorem dL_law__284 : decode cL_law_ 284 = .ok (.iload 4, 2) := by decide +kernel
theorem dL_law__286 : decode cL_law_ 286 = .ok (.iconst 1, 1) := by decide +kernel
theorem dL_law__287 : decode cL_law_ 287 = .ok (.iadd, 1) := by decide +kernel
theorem dL_law__288 : decode cL_law_ 288 = .ok (.iaload, 1) := by decide +kernel
theorem dL_law__289 : decode cL_law_ 289 = .ok (.invokevirtual 117, 3) := by decide +kernel
theorem dL_law__292 : decode cL_law_ 292 = .ok (.istore 6, 2) := by decide +kernel
theorem dL_law__294 : decode cL_law_ 294 = .ok (.aload_n 2, 1) := by decide +kernel
theorem dL_law__295 : decode cL_law_ 295 = .ok (.invokevirtual 118, 3) := by decide +kernel
theorem dL_law__298 : decode cL_law_ 298 = .ok (.iload 5, 2) := by decide +kernel
theorem dL_law__300 : decode cL_law_ 300 = .ok (.if_icmp .eq 5, 3) := by decide +kernel
theorem dL_law__303 : decode cL_law_ 303 = .ok (.iconst 0, 1) := by decide +kernel
theorem dL_law__304 : decode cL_law_ 304 = .ok (.ireturn, 1) := by decide +kernel
theorem dL_law__305 : decode cL_law_ 305 = .ok (.iload 5, 2) := by decide +kernel
theorem dL_law__307 : decode cL_law_ 307 = .ok (.ifCond .ne 15, 3) := by decide +kernel
theorem dL_law__310 : decode cL_law_ 310 = .ok (.aload_n 3, 1) := by decide +kernel
theorem dL_law__311 : decode cL_law_ 311 = .ok (.iconst 0, 1) := by decide +kernel
theorem dL_law__312 : decode cL_law_ 312 = .ok (.laload, 1) := by decide +kernel
theorem dL_law__313 : decode cL_law_ 313 = .ok (.iload 6, 2) := by decide +kernel
theorem dL_law__315 : decode cL_law_ 315 = .ok (.i2l, 1) := by decide +kernel
theorem dL_law__316 : decode cL_law_ 316 = .ok (.lcmp, 1) := by decide +kernel
theorem dL_law__317 : decode cL_law_ 317 = .ok (.ifCond .eq 5, 3) := by decide +kernel
theorem dL_law__320 : decode cL_law_ 320 = .ok (.iconst 0, 1) := by decide +kernel
theorem dL_law__321 : decode cL_law_ 321 = .ok (.ireturn, 1) := by decide +kernel
theorem dL_law__322 : decode cL_law_ 322 = .ok (.goto 2030, 3) := by decide +kernel
theorem dL_law__325 : decode cL_law_ 325 = .ok (.aload_n 1, 1) := by decide +kernel
theorem dL_law__326 : decode cL_law_ 326 = .ok (.aload_n 0, 1) := by decide +kernel
theorem dL_law__327 : decode cL_law_ 327 = .ok (.iload 4, 2) := by decide +kernel
theorem dL_law__329 : decode cL_law_ 329 = .ok (.iconst 1, 1) := by decide +kernel
theorem dL_law__330 : decode cL_law_ 330 = .ok (.iadd, 1) := by decide +kernel
theorem dL_law__331 : decode cL_law_ 331 = .ok (.iaload, 1) := by decide +kernel
theorem dL_law__332 : decode cL_law_ 332 = .ok (.aload_n 3, 1) := by decide +kernel
theorem dL_law__333 : decode cL_law_ 333 = .ok (.invokestatic 122, 3) := by decide +kernel
theorem dL_law__336 : decode cL_law_ 336 = .ok (.istore 5, 2) := by decide +kernel
theorem dL_law__338 : decode cL_law_ 338 = .ok (.aload_n 2, 1) := by decide +kernel
theorem dL_law__339 : decode cL_law_ 339 = .ok (.aload_n 0, 1) := by decide +kernel
theorem dL_law__340 : decode cL_law_ 340 = .ok (.iload 4, 2) := by decide +kernel
theorem dL_law__342 : decode cL_law_ 342 = .ok (.iconst 1, 1) := by decide +kernel
theorem dL_law__343 : decode cL_law_ 343 = .ok (.iadd, 1) := by decide +kernel
theorem dL_law__344 : decode cL_law_ 344 = .ok (.iaload, 1) := by decide +kernel
theorem dL_law__345 : decode cL_law_ 345 = .ok (.invokevirtual 124, 3) := by decide +kernel
theorem dL_law__348 : decode cL_law_ 348 = .ok (.istore 6, 2) := by decide +kernel
theorem dL_law__350 : decode cL_law_ 350 = .ok (.aload_n 2, 1) := by decide +kernel
theorem dL_law__351 : decode cL_law_ 351 = .ok (.invokevirtual 118, 3) := by decide +kernel
theorem dL_law__354 : decode cL_law_ 354 = .ok (.iload 5, 2) := by decide +kernel
theorem dL_law__356 : decode cL_law_ 356 = .ok (.if_icmp .eq 5, 3) := by decide +kernel
theorem dL_law__359 : decode cL_law_ 359 = .ok (.iconst 0, 1) := by decide +kernel
theorem dL_law__360 : decode cL_law_ 360 = .ok (.ireturn, 1) := by decide +kernel
theorem dL_law__361 : decode cL_law_ 361 = .ok (.iload 5, 2) := by decide +kernel
theorem dL_law__363 : decode cL_law_ 363 = .ok (.ifCond .ne 15, 3) := by decide +kernel
theorem dL_law__366 : decode cL_law_ 366 = .ok (.aload_n 3, 1) := by decide +kernel
theorem dL_law__367 : decode cL_law_ 367 = .ok (.iconst 0, 1) := by decide +kernel
theorem dL_law__368 : decode cL_law_ 368 = .ok (.laload, 1) := by decide +kernel
theorem dL_law__369 : decode cL_law_ 369 = .ok (.iload 6, 2) := by decide +kernel
theorem dL_law__371 : decode cL_law_ 371 = .ok (.i2l, 1) := by decide +kernel
theorem dL_law__372 : decode cL_law_ 372 = .ok (.lcmp, 1) := by decide +kernel
theorem dL_law__373 : decode cL_law_ 373 = .ok (.ifCond .eq 5, 3) := by decide +kernel
theorem dL_law__376 : decode cL_law_ 376 = .ok (.iconst 0, 1) := by decide +kernel
theorem dL_law__377 : decode cL_law_ 377 = .ok (.ireturn, 1) := by decide +kernel
theorem dL_law__378 : decode cL_law_ 378 = .ok (.goto 1974, 3) := by decide +kernel
theorem dL_law__381 : decode cL_law_ 381 = .ok (.aload_n 1, 1) := by decide +kernel
theorem dL_law__382 : decode cL_law_ 382 = .ok (.aload_n 0, 1) := by decide +kernel
theorem dL_law__383 : decode cL_law_ 383 = .ok (.iload 4, 2) := by decide +kernel
theorem dL_law__385 : decode cL_law_ 385 = .ok (.iconst 1, 1) := by decide +kernel
theorem dL_law__386 : decode cL_law_ 386 = .ok (.iadd, 1) := by decide +kernel
theorem dL_law__387 : decode cL_law_ 387 = .ok (.iaload, 1) := by decide +kernel
theorem dL_law__388 : decode cL_law_ 388 = .ok (.aload_n 3, 1) := by decide +kernel
theorem dL_law__389 : decode cL_law_ 389 = .ok (.invokestatic 125, 3) := by decide +kernel
theorem dL_law__392 : decode cL_law_ 392 = .ok (.istore 5, 2) := by decide +kernel
theorem dL_law__394 : decode cL_law_ 394 = .ok (.aload_n 2, 1) := by decide +kernel
theorem dL_law__395 : decode cL_law_ 395 = .ok (.aload_n 0, 1) := by decide +kernel
theorem dL_law__396 : decode cL_law_ 396 = .ok (.iload 4, 2) := by decide +kernel
theorem dL_law__398 : decode cL_law_ 398 = .ok (.iconst 1, 1) := by decide +kernel
theorem dL_law__399 : decode cL_law_ 399 = .ok (.iadd, 1) := by decide +kernel
theorem dL_law__400 : decode cL_law_ 400 = .ok (.iaload, 1) := by decide +kernel
theorem dL_law__401 : decode cL_law_ 401 = .ok (.invokevirtual 127, 3) := by decide +kernel
theorem dL_law__404 : decode cL_law_ 404 = .ok (.istore 6, 2) := by decide +kernel
theorem dL_law__406 : decode cL_law_ 406 = .ok (.aload_n 2, 1) := by decide +kernel
theorem dL_law__407 : decode cL_law_ 407 = .ok (.invokevirtual 118, 3) := by decide +kernel
theorem dL_law__410 : decode cL_law_ 410 = .ok (.iload 5, 2) := by decide +kernel
theorem dL_law__412 : decode cL_law_ 412 = .ok (.if_icmp .eq 5, 3) := by decide +kernel
theorem dL_law__415 : decode cL_law_ 415 = .ok (.iconst 0, 1) := by decide +kernel
theorem dL_law__416 : decode cL_law_ 416 = .ok (.ireturn, 1) := by decide +kernel
theorem dL_law__417 : decode cL_law_ 417 = .ok (.iload 5, 2) := by decide +kernel
theorem dL_law__419 : decode cL_law_ 419 = .ok (.ifCond .ne 15, 3) := by decide +kernel
theorem dL_law__422 : decode cL_law_ 422 = .ok (.aload_n 3, 1) := by decide +kernel
theorem dL_law__423 : decode cL_law_ 423 = .ok (.iconst 0, 1) := by decide +kernel
theorem dL_law__424 : decode cL_law_ 424 = .ok (.laload, 1) := by decide +kernel
theorem dL_law__425 : decode cL_law_ 425 = .ok (.iload 6, 2) := by decide +kernel
theorem dL_law__427 : decode cL_law_ 427 = .ok (.i2l, 1) := by decide +kernel
theorem dL_law__428 : decode cL_law_ 428 = .ok (.lcmp, 1) := by decide +kernel
theorem dL_law__429 : decode cL_law_ 429 = .ok (.ifCond .eq 5, 3) := by decide +kernel
theorem dL_law__432 : decode cL_law_ 432 = .ok (.iconst 0, 1) := by decide +kernel
theorem dL_law__433 : decode cL_law_ 433 = .ok (.ireturn, 1) := by decide +kernel
theorem dL_law__434 : decode cL_law_ 434 = .ok (.goto 1918, 3) := by decide +kernel
theorem dL_law__437 : decode cL_law_ 437 = .ok (.aload_n 1, 1) := by decide +kernel
theorem dL_law__438 : decode cL_law_ 438 = .ok (.aload_n 0, 1) := by decide +kernel
theorem dL_law__439 : decode cL_law_ 439 = .ok (.iload 4, 2) := by decide +kernel
theorem dL_law__441 : decode cL_law_ 441 = .ok (.iconst 1, 1) := by decide +kernel
theorem dL_law__442 : decode cL_law_ 442 = .ok (.iadd, 1) := by decide +kernel
theorem dL_law__443 : decode cL_law_ 443 = .ok (.iaload, 1) := by decide +kernel
theorem dL_law__444 : decode cL_law_ 444 = .ok (.aload_n 3, 1) := by decide +kernel
theorem dL_law__445 : decode cL_law_ 445 = .ok (.invokestatic 128, 3) := by decide +kernel
theorem dL_law__448 : decode cL_law_ 448 = .ok (.istore 5, 2) := by decide +kernel
theorem dL_law__450 : decode cL_law_ 450 = .ok (.aload_n 2, 1) := by decide +kernel
theorem dL_law__451 : decode cL_law_ 451 = .ok (.aload_n 0, 1) := by decide +kernel
theorem dL_law__452 : decode cL_law_ 452 = .ok (.iload 4, 2) := by decide +kernel
theorem dL_law__454 : decode cL_law_ 454 = .ok (.iconst 1, 1) := by decide +kernel
theorem dL_law__455 : decode cL_law_ 455 = .ok (.iadd, 1) := by decide +kernel
theorem dL_law__456 : decode cL_law_ 456 = .ok (.iaload, 1) := by decide +kernel
theorem dL_law__457 : decode cL_law_ 457 = .ok (.invokevirtual 130, 3) := by decide +kernel
theorem dL_law__460 : decode cL_law_ 460 = .ok (.istore 6, 2) := by decide +kernel
theorem dL_law__462 : decode cL_law_ 462 = .ok (.aload_n 2, 1) := by decide +kernel
theorem dL_law__463 : decode cL_law_ 463 = .ok (.invokevirtual 118, 3) := by decide +kernel
theorem dL_law__466 : decode cL_law_ 466 = .ok (.iload 5, 2) := by decide +kernel
theorem dL_law__468 : decode cL_law_ 468 = .ok (.if_icmp .eq 5, 3) := by decide +kernel
theorem dL_law__471 : decode cL_law_ 471 = .ok (.iconst 0, 1) := by decide +kernel
theorem dL_law__472 : decode cL_law_ 472 = .ok (.ireturn, 1) := by decide +kernel
theorem dL_law__473 : decode cL_law_ 473 = .ok (.iload 5, 2) := by decide +kernel
theorem dL_law__475 : decode cL_law_ 475 = .ok (.ifCond .ne 15, 3) := by decide +kernel
theorem dL_law__478 : decode cL_law_ 478 = .ok (.aload_n 3, 1) := by decide +kernel
theorem dL_law__479 : decode cL_law_ 479 = .ok (.iconst 0, 1) := by decide +kernel
theorem dL_law__480 : decode cL_law_ 480 = .ok (.laload, 1) := by decide +kernel
theorem dL_law__481 : decode cL_law_ 481 = .ok (.iload 6, 2) := by decide +kernel
theorem dL_law__483 : decode cL_law_ 483 = .ok (.i2l, 1) := by decide +kernel
theorem dL_law__484 : decode cL_law_ 484 = .ok (.lcmp, 1) := by decide +kernel
theorem dL_law__485 : decode cL_law_ 485 = .ok (.ifCond .eq 5, 3) := by decide +kernel
theorem dL_law__488 : decode cL_law_ 488 = .ok (.iconst 0, 1) := by decide +kernel
theorem dL_law__489 : decode cL_law_ 489 = .ok (.ireturn, 1) := by decide +kernel
theorem dL_law__490 : decode cL_law_ 490 = .ok (.goto 1862, 3) := by decide +kernel
theorem dL_law__493 : decode cL_law_ 493 = .ok (.aload_n 1, 1) := by decide +kernel
theorem dL_law__494 : decode cL_law_ 494 = .ok (.invokevirtual 131, 3) := by decide +kernel
theorem dL_law__497 : decode cL_law_ 497 = .ok (.aload_n 2, 1) := by decide +kernel
theorem dL_law__498 : decode cL_law_ 498 = .ok (.invokevirtual 134, 3) := by decide +kernel
theorem dL_law__501 : decode cL_law_ 501 = .ok (.if_icmp .eq 1851, 3) := by decide +kernel
theorem dL_law__504 : decode cL_law_ 504 = .ok (.iconst 0, 1) := by decide +kernel
theorem dL_law__505 : decode cL_law_ 505 = .ok (.ireturn, 1) := by decide +kernel
theorem dL_law__506 : decode cL_law_ 506 = .ok (.aload_n 1, 1) := by decide +kernel
theorem dL_law__507 : decode cL_law_ 507 = .ok (.invokevirtual 135, 3) := by decide +kernel
theorem dL_law__510 : decode cL_law_ 510 = .ok (.aload_n 2, 1) := by decide +kernel
theorem dL_law__511 : decode cL_law_ 511 = .ok (.invokevirtual 138, 3) := by decide +kernel
theorem dL_law__514 : decode cL_law_ 514 = .ok (.if_icmp .eq 1838, 3) := by decide +kernel
theorem dL_law__517 : decode cL_law_ 517 = .ok (.iconst 0, 1) := by decide +kernel
theorem dL_law__518 : decode cL_law_ 518 = .ok (.ireturn, 1) := by decide +kernel
theorem dL_law__519 : decode cL_law_ 519 = .ok (.aload_n 1, 1) := by decide +kernel
theorem dL_law__520 : decode cL_law_ 520 = .ok (.aload_n 0, 1) := by decide +kernel
theorem dL_law__521 : decode cL_law_ 521 = .ok (.iload 4, 2) := by decide +kernel
theorem dL_law__523 : decode cL_law_ 523 = .ok (.iconst 1, 1) := by decide +kernel
theorem dL_law__524 : decode cL_law_ 524 = .ok (.iadd, 1) := by decide +kernel
theorem dL_law__525 : decode cL_law_ 525 = .ok (.iaload, 1) := by decide +kernel
theorem dL_law__526 : decode cL_law_ 526 = .ok (.aload_n 3, 1) := by decide +kernel
theorem dL_law__527 : decode cL_law_ 527 = .ok (.invokestatic 139, 3) := by decide +kernel
theorem dL_law__530 : decode cL_law_ 530 = .ok (.istore 5, 2) := by decide +kernel
theorem dL_law__532 : decode cL_law_ 532 = .ok (.aload_n 2, 1) := by decide +kernel
theorem dL_law__533 : decode cL_law_ 533 = .ok (.aload_n 0, 1) := by decide +kernel
theorem dL_law__534 : decode cL_law_ 534 = .ok (.iload 4, 2) := by decide +kernel
theorem dL_law__536 : decode cL_law_ 536 = .ok (.iconst 1, 1) := by decide +kernel
theorem dL_law__537 : decode cL_law_ 537 = .ok (.iadd, 1) := by decide +kernel
theorem dL_law__538 : decode cL_law_ 538 = .ok (.iaload, 1) := by decide +kernel
theorem dL_law__539 : decode cL_law_ 539 = .ok (.invokevirtual 141, 3) := by decide +kernel
theorem dL_law__542 : decode cL_law_ 542 = .ok (.istore 6, 2) := by decide +kernel
theorem dL_law__544 : decode cL_law_ 544 = .ok (.aload_n 2, 1) := by decide +kernel
theorem dL_law__545 : decode cL_law_ 545 = .ok (.invokevirtual 118, 3) := by decide +kernel
theorem dL_law__548 : decode cL_law_ 548 = .ok (.iload 5, 2) := by decide +kernel
theorem dL_law__550 : decode cL_law_ 550 = .ok (.if_icmp .eq 5, 3) := by decide +kernel
theorem dL_law__553 : decode cL_law_ 553 = .ok (.iconst 0, 1) := by decide +kernel
theorem dL_law__554 : decode cL_law_ 554 = .ok (.ireturn, 1) := by decide +kernel
theorem dL_law__555 : decode cL_law_ 555 = .ok (.iload 5, 2) := by decide +kernel
theorem dL_law__557 : decode cL_law_ 557 = .ok (.ifCond .ne 15, 3) := by decide +kernel
theorem dL_law__560 : decode cL_law_ 560 = .ok (.aload_n 3, 1) := by decide +kernel
theorem dL_law__561 : decode cL_law_ 561 = .ok (.iconst 0, 1) := by decide +kernel
theorem dL_law__562 : decode cL_law_ 562 = .ok (.laload, 1) := by decide +kernel
theorem dL_law__563 : decode cL_law_ 563 = .ok (.iload 6, 2) := by decide +kernel
theorem dL_law__565 : decode cL_law_ 565 = .ok (.i2l, 1) := by decide +kernel
theorem dL_law__566 : decode cL_law_ 566 = .ok (.lcmp, 1) := by decide +kernel
theorem dL_law__567 : decode cL_law_ 567 = .ok (.ifCond .eq 5, 3) := by decide +kernel
theorem dL_law__570 : decode cL_law_ 570 = .ok (.iconst 0, 1) := by decide +kernel
theorem dL_law__571 : decode cL_law_ 571 = .ok (.ireturn, 1) := by decide +kernel
theorem dL_law__572 : decode cL_law_ 572 = .ok (.goto 1780, 3) := by decide +kernel
theorem dL_law__575 : decode cL_law_ 575 = .ok (.aload_n 1, 1) := by decide +kernel
theorem dL_law__576 : decode cL_law_ 576 = .ok (.aload_n 0, 1) := by decide +kernel
theorem dL_law__577 : decode cL_law_ 577 = .ok (.iload 4, 2) := by decide +kernel
theorem dL_law__579 : decode cL_law_ 579 = .ok (.iconst 1, 1) := by decide +kernel
theorem dL_law__580 : decode cL_law_ 580 = .ok (.iadd, 1) := by decide +kernel
theorem dL_law__581 : decode cL_law_ 581 = .ok (.iaload, 1) := by decide +kernel
theorem dL_law__582 : decode cL_law_ 582 = .ok (.aload_n 0, 1) := by decide +kernel
theorem dL_law__583 : decode cL_law_ 583 = .ok (.iload 4, 2) := by decide +kernel
theorem dL_law__585 : decode cL_law_ 585 = .ok (.iconst 2, 1) := by decide +kernel
theorem dL_law__586 : decode cL_law_ 586 = .ok (.iadd, 1) := by decide +kernel
theorem dL_law__587 : decode cL_law_ 587 = .ok (.iaload, 1) := by decide +kernel
theorem dL_law__588 : decode cL_law_ 588 = .ok (.aload_n 3, 1) := by decide +kernel
theorem dL_law__589 : decode cL_law_ 589 = .ok (.invokestatic 142, 3) := by decide +kernel
theorem dL_law__592 : decode cL_law_ 592 = .ok (.istore 5, 2) := by decide +kernel
theorem dL_law__594 : decode cL_law_ 594 = .ok (.aload_n 2, 1) := by decide +kernel
theorem dL_law__595 : decode cL_law_ 595 = .ok (.aload_n 0, 1) := by decide +kernel
theorem dL_law__596 : decode cL_law_ 596 = .ok (.iload 4, 2) := by decide +kernel
theorem dL_law__598 : decode cL_law_ 598 = .ok (.iconst 1, 1) := by decide +kernel
theorem dL_law__599 : decode cL_law_ 599 = .ok (.iadd, 1) := by decide +kernel
theorem dL_law__600 : decode cL_law_ 600 = .ok (.iaload, 1) := by decide +kernel
theorem dL_law__601 : decode cL_law_ 601 = .ok (.aload_n 0, 1) := by decide +kernel
theorem dL_law__602 : decode cL_law_ 602 = .ok (.iload 4, 2) := by decide +kernel
theorem dL_law__604 : decode cL_law_ 604 = .ok (.iconst 2, 1) := by decide +kernel
theorem dL_law__605 : decode cL_law_ 605 = .ok (.iadd, 1) := by decide +kernel
theorem dL_law__606 : decode cL_law_ 606 = .ok (.iaload, 1) := by decide +kernel
theorem dL_law__607 : decode cL_law_ 607 = .ok (.invokevirtual 145, 3) := by decide +kernel
theorem dL_law__610 : decode cL_law_ 610 = .ok (.istore 6, 2) := by decide +kernel
theorem dL_law__612 : decode cL_law_ 612 = .ok (.aload_n 2, 1) := by decide +kernel
theorem dL_law__613 : decode cL_law_ 613 = .ok (.invokevirtual 118, 3) := by decide +kernel
theorem dL_law__616 : decode cL_law_ 616 = .ok (.iload 5, 2) := by decide +kernel
theorem dL_law__618 : decode cL_law_ 618 = .ok (.if_icmp .eq 5, 3) := by decide +kernel
theorem dL_law__621 : decode cL_law_ 621 = .ok (.iconst 0, 1) := by decide +kernel
