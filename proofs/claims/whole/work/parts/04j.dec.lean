theorem dX12_bests_188 : decode cX12_bests 188 = .ok (.lload 9, 2) := by decide +kernel
theorem dX12_bests_190 : decode cX12_bests 190 = .ok (.ldc2_w 171, 3) := by decide +kernel
theorem dX12_bests_193 : decode cX12_bests 193 = .ok (.aload_n 0, 1) := by decide +kernel
theorem dX12_bests_194 : decode cX12_bests 194 = .ok (.getfield 65, 3) := by decide +kernel
theorem dX12_bests_197 : decode cX12_bests 197 = .ok (.iload 13, 2) := by decide +kernel
theorem dX12_bests_199 : decode cX12_bests 199 = .ok (.iaload, 1) := by decide +kernel
theorem dX12_bests_200 : decode cX12_bests 200 = .ok (.i2l, 1) := by decide +kernel
theorem dX12_bests_201 : decode cX12_bests 201 = .ok (.lmul, 1) := by decide +kernel
theorem dX12_bests_202 : decode cX12_bests 202 = .ok (.ladd, 1) := by decide +kernel
theorem dX12_bests_203 : decode cX12_bests 203 = .ok (.lstore 9, 2) := by decide +kernel
theorem dX12_bests_205 : decode cX12_bests 205 = .ok (.iload 11, 2) := by decide +kernel
theorem dX12_bests_207 : decode cX12_bests 207 = .ok (.ifCond .eq 29, 3) := by decide +kernel
theorem dX12_bests_210 : decode cX12_bests 210 = .ok (.lload 9, 2) := by decide +kernel
theorem dX12_bests_212 : decode cX12_bests 212 = .ok (.iload_n 1, 1) := by decide +kernel
theorem dX12_bests_213 : decode cX12_bests 213 = .ok (.i2l, 1) := by decide +kernel
theorem dX12_bests_214 : decode cX12_bests 214 = .ok (.aload_n 0, 1) := by decide +kernel
theorem dX12_bests_215 : decode cX12_bests 215 = .ok (.getfield 68, 3) := by decide +kernel
theorem dX12_bests_218 : decode cX12_bests 218 = .ok (.iload 13, 2) := by decide +kernel
theorem dX12_bests_220 : decode cX12_bests 220 = .ok (.iaload, 1) := by decide +kernel
theorem dX12_bests_221 : decode cX12_bests 221 = .ok (.aload_n 0, 1) := by decide +kernel
theorem dX12_bests_222 : decode cX12_bests 222 = .ok (.invokevirtual 158, 3) := by decide +kernel
theorem dX12_bests_225 : decode cX12_bests 225 = .ok (.isub, 1) := by decide +kernel
theorem dX12_bests_226 : decode cX12_bests 226 = .ok (.i2l, 1) := by decide +kernel
theorem dX12_bests_227 : decode cX12_bests 227 = .ok (.lmul, 1) := by decide +kernel
theorem dX12_bests_228 : decode cX12_bests 228 = .ok (.lcmp, 1) := by decide +kernel
theorem dX12_bests_229 : decode cX12_bests 229 = .ok (.ifCond .gt 7, 3) := by decide +kernel
theorem dX12_bests_232 : decode cX12_bests 232 = .ok (.iconst 1, 1) := by decide +kernel
theorem dX12_bests_233 : decode cX12_bests 233 = .ok (.goto 4, 3) := by decide +kernel
theorem dX12_bests_236 : decode cX12_bests 236 = .ok (.iconst 0, 1) := by decide +kernel
theorem dX12_bests_237 : decode cX12_bests 237 = .ok (.istore 11, 2) := by decide +kernel
theorem dX12_bests_239 : decode cX12_bests 239 = .ok (.iload 6, 2) := by decide +kernel
theorem dX12_bests_241 : decode cX12_bests 241 = .ok (.aload_n 0, 1) := by decide +kernel
theorem dX12_bests_242 : decode cX12_bests 242 = .ok (.getfield 71, 3) := by decide +kernel
theorem dX12_bests_245 : decode cX12_bests 245 = .ok (.iload 13, 2) := by decide +kernel
theorem dX12_bests_247 : decode cX12_bests 247 = .ok (.iaload, 1) := by decide +kernel
theorem dX12_bests_248 : decode cX12_bests 248 = .ok (.aload_n 0, 1) := by decide +kernel
theorem dX12_bests_249 : decode cX12_bests 249 = .ok (.getfield 65, 3) := by decide +kernel
theorem dX12_bests_252 : decode cX12_bests 252 = .ok (.iload 13, 2) := by decide +kernel
theorem dX12_bests_254 : decode cX12_bests 254 = .ok (.iaload, 1) := by decide +kernel
theorem dX12_bests_255 : decode cX12_bests 255 = .ok (.imul, 1) := by decide +kernel
theorem dX12_bests_256 : decode cX12_bests 256 = .ok (.iadd, 1) := by decide +kernel
theorem dX12_bests_257 : decode cX12_bests 257 = .ok (.istore 6, 2) := by decide +kernel
theorem dX12_bests_259 : decode cX12_bests 259 = .ok (.iload 7, 2) := by decide +kernel
theorem dX12_bests_261 : decode cX12_bests 261 = .ok (.iconst 1, 1) := by decide +kernel
theorem dX12_bests_262 : decode cX12_bests 262 = .ok (.iload 13, 2) := by decide +kernel
theorem dX12_bests_264 : decode cX12_bests 264 = .ok (.ishl, 1) := by decide +kernel
theorem dX12_bests_265 : decode cX12_bests 265 = .ok (.ior, 1) := by decide +kernel
theorem dX12_bests_266 : decode cX12_bests 266 = .ok (.istore 7, 2) := by decide +kernel
theorem dX12_bests_268 : decode cX12_bests 268 = .ok (.iinc 8 1, 3) := by decide +kernel
theorem dX12_bests_271 : decode cX12_bests 271 = .ok (.iinc 12 1, 3) := by decide +kernel
theorem dX12_bests_274 : decode cX12_bests 274 = .ok (.goto (-114), 3) := by decide +kernel
theorem dX12_bests_277 : decode cX12_bests 277 = .ok (.iload 11, 2) := by decide +kernel
theorem dX12_bests_279 : decode cX12_bests 279 = .ok (.ifCond .eq 63, 3) := by decide +kernel
theorem dX12_bests_282 : decode cX12_bests 282 = .ok (.iload 6, 2) := by decide +kernel
theorem dX12_bests_284 : decode cX12_bests 284 = .ok (.aload_n 0, 1) := by decide +kernel
theorem dX12_bests_285 : decode cX12_bests 285 = .ok (.getfield 168, 3) := by decide +kernel
theorem dX12_bests_288 : decode cX12_bests 288 = .ok (.if_icmp .lt 54, 3) := by decide +kernel
theorem dX12_bests_291 : decode cX12_bests 291 = .ok (.iload 6, 2) := by decide +kernel
theorem dX12_bests_293 : decode cX12_bests 293 = .ok (.aload_n 0, 1) := by decide +kernel
theorem dX12_bests_294 : decode cX12_bests 294 = .ok (.getfield 168, 3) := by decide +kernel
theorem dX12_bests_297 : decode cX12_bests 297 = .ok (.if_icmp .ne 29, 3) := by decide +kernel
theorem dX12_bests_300 : decode cX12_bests 300 = .ok (.iload 8, 2) := by decide +kernel
theorem dX12_bests_302 : decode cX12_bests 302 = .ok (.iload 4, 2) := by decide +kernel
theorem dX12_bests_304 : decode cX12_bests 304 = .ok (.if_icmp .gt 38, 3) := by decide +kernel
theorem dX12_bests_307 : decode cX12_bests 307 = .ok (.iload 8, 2) := by decide +kernel
theorem dX12_bests_309 : decode cX12_bests 309 = .ok (.iload 4, 2) := by decide +kernel
theorem dX12_bests_311 : decode cX12_bests 311 = .ok (.if_icmp .ne 15, 3) := by decide +kernel
theorem dX12_bests_314 : decode cX12_bests 314 = .ok (.iload 7, 2) := by decide +kernel
theorem dX12_bests_316 : decode cX12_bests 316 = .ok (.aload_n 0, 1) := by decide +kernel
theorem dX12_bests_317 : decode cX12_bests 317 = .ok (.getfield 165, 3) := by decide +kernel
theorem dX12_bests_320 : decode cX12_bests 320 = .ok (.if_icmp .lt 6, 3) := by decide +kernel
theorem dX12_bests_323 : decode cX12_bests 323 = .ok (.goto 19, 3) := by decide +kernel
theorem dX12_bests_326 : decode cX12_bests 326 = .ok (.aload_n 0, 1) := by decide +kernel
theorem dX12_bests_327 : decode cX12_bests 327 = .ok (.iload 7, 2) := by decide +kernel
theorem dX12_bests_329 : decode cX12_bests 329 = .ok (.putfield 165, 3) := by decide +kernel
theorem dX12_bests_332 : decode cX12_bests 332 = .ok (.aload_n 0, 1) := by decide +kernel
theorem dX12_bests_333 : decode cX12_bests 333 = .ok (.iload 6, 2) := by decide +kernel
theorem dX12_bests_335 : decode cX12_bests 335 = .ok (.putfield 168, 3) := by decide +kernel
theorem dX12_bests_338 : decode cX12_bests 338 = .ok (.iload 8, 2) := by decide +kernel
theorem dX12_bests_340 : decode cX12_bests 340 = .ok (.istore 4, 2) := by decide +kernel
theorem dX12_bests_342 : decode cX12_bests 342 = .ok (.iinc 5 1, 3) := by decide +kernel
theorem dX12_bests_345 : decode cX12_bests 345 = .ok (.goto (-211), 3) := by decide +kernel
theorem dX12_bests_348 : decode cX12_bests 348 = .ok (.iconst 0, 1) := by decide +kernel
theorem dX12_bests_349 : decode cX12_bests 349 = .ok (.ireturn, 1) := by decide +kernel
theorem dX12_best_0 : decode cX12_best 0 = .ok (.aload_n 0, 1) := by decide +kernel
theorem dX12_best_1 : decode cX12_best 1 = .ok (.iload_n 1, 1) := by decide +kernel
theorem dX12_best_2 : decode cX12_best 2 = .ok (.invokevirtual 173, 3) := by decide +kernel
theorem dX12_best_5 : decode cX12_best 5 = .ok (.istore_n 2, 1) := by decide +kernel
theorem dX12_best_6 : decode cX12_best 6 = .ok (.iload_n 2, 1) := by decide +kernel
theorem dX12_best_7 : decode cX12_best 7 = .ok (.ifCond .eq 11, 3) := by decide +kernel
theorem dX12_best_10 : decode cX12_best 10 = .ok (.aload_n 0, 1) := by decide +kernel
theorem dX12_best_11 : decode cX12_best 11 = .ok (.iload_n 2, 1) := by decide +kernel
theorem dX12_best_12 : decode cX12_best 12 = .ok (.invokevirtual 103, 3) := by decide +kernel
theorem dX12_best_15 : decode cX12_best 15 = .ok (.goto 7, 3) := by decide +kernel
theorem dX12_best_18 : decode cX12_best 18 = .ok (.aload_n 0, 1) := by decide +kernel
theorem dX12_best_19 : decode cX12_best 19 = .ok (.getfield 165, 3) := by decide +kernel
theorem dX12_best_22 : decode cX12_best 22 = .ok (.ireturn, 1) := by decide +kernel
theorem dX12_bestWorth_0 : decode cX12_bestWorth 0 = .ok (.aload_n 0, 1) := by decide +kernel
theorem dX12_bestWorth_1 : decode cX12_bestWorth 1 = .ok (.iload_n 1, 1) := by decide +kernel
theorem dX12_bestWorth_2 : decode cX12_bestWorth 2 = .ok (.invokevirtual 173, 3) := by decide +kernel
theorem dX12_bestWorth_5 : decode cX12_bestWorth 5 = .ok (.istore_n 2, 1) := by decide +kernel
theorem dX12_bestWorth_6 : decode cX12_bestWorth 6 = .ok (.iload_n 2, 1) := by decide +kernel
theorem dX12_bestWorth_7 : decode cX12_bestWorth 7 = .ok (.ifCond .eq 11, 3) := by decide +kernel
theorem dX12_bestWorth_10 : decode cX12_bestWorth 10 = .ok (.aload_n 0, 1) := by decide +kernel
theorem dX12_bestWorth_11 : decode cX12_bestWorth 11 = .ok (.iload_n 2, 1) := by decide +kernel
theorem dX12_bestWorth_12 : decode cX12_bestWorth 12 = .ok (.invokevirtual 103, 3) := by decide +kernel
theorem dX12_bestWorth_15 : decode cX12_bestWorth 15 = .ok (.goto 7, 3) := by decide +kernel
theorem dX12_bestWorth_18 : decode cX12_bestWorth 18 = .ok (.aload_n 0, 1) := by decide +kernel
theorem dX12_bestWorth_19 : decode cX12_bestWorth 19 = .ok (.getfield 168, 3) := by decide +kernel
theorem dX12_bestWorth_22 : decode cX12_bestWorth 22 = .ok (.ireturn, 1) := by decide +kernel
theorem dX12_wanders_0 : decode cX12_wanders 0 = .ok (.aload_n 0, 1) := by decide +kernel
theorem dX12_wanders_1 : decode cX12_wanders 1 = .ok (.getfield 46, 3) := by decide +kernel
theorem dX12_wanders_4 : decode cX12_wanders 4 = .ok (.iload_n 1, 1) := by decide +kernel
theorem dX12_wanders_5 : decode cX12_wanders 5 = .ok (.iaload, 1) := by decide +kernel
theorem dX12_wanders_6 : decode cX12_wanders 6 = .ok (.bipush 50, 2) := by decide +kernel
theorem dX12_wanders_8 : decode cX12_wanders 8 = .ok (.idiv, 1) := by decide +kernel
theorem dX12_wanders_9 : decode cX12_wanders 9 = .ok (.istore_n 2, 1) := by decide +kernel
theorem dX12_wanders_10 : decode cX12_wanders 10 = .ok (.aload_n 0, 1) := by decide +kernel
theorem dX12_wanders_11 : decode cX12_wanders 11 = .ok (.getfield 46, 3) := by decide +kernel
theorem dX12_wanders_14 : decode cX12_wanders 14 = .ok (.iload_n 1, 1) := by decide +kernel
theorem dX12_wanders_15 : decode cX12_wanders 15 = .ok (.iaload, 1) := by decide +kernel
theorem dX12_wanders_16 : decode cX12_wanders 16 = .ok (.bipush 50, 2) := by decide +kernel
theorem dX12_wanders_18 : decode cX12_wanders 18 = .ok (.irem, 1) := by decide +kernel
theorem dX12_wanders_19 : decode cX12_wanders 19 = .ok (.ifCond .eq 4, 3) := by decide +kernel
theorem dX12_wanders_22 : decode cX12_wanders 22 = .ok (.return_, 1) := by decide +kernel
theorem dX12_wanders_23 : decode cX12_wanders 23 = .ok (.bipush 6, 2) := by decide +kernel
theorem dX12_wanders_25 : decode cX12_wanders 25 = .ok (.iload_n 1, 1) := by decide +kernel
theorem dX12_wanders_26 : decode cX12_wanders 26 = .ok (.imul, 1) := by decide +kernel
theorem dX12_wanders_27 : decode cX12_wanders 27 = .ok (.iload_n 2, 1) := by decide +kernel
theorem dX12_wanders_28 : decode cX12_wanders 28 = .ok (.iload_n 1, 1) := by decide +kernel
theorem dX12_wanders_29 : decode cX12_wanders 29 = .ok (.iadd, 1) := by decide +kernel
theorem dX12_wanders_30 : decode cX12_wanders 30 = .ok (.bipush 6, 2) := by decide +kernel
theorem dX12_wanders_32 : decode cX12_wanders 32 = .ok (.irem, 1) := by decide +kernel
theorem dX12_wanders_33 : decode cX12_wanders 33 = .ok (.iadd, 1) := by decide +kernel
theorem dX12_wanders_34 : decode cX12_wanders 34 = .ok (.istore_n 3, 1) := by decide +kernel
theorem dX12_wanders_35 : decode cX12_wanders 35 = .ok (.aload_n 0, 1) := by decide +kernel
theorem dX12_wanders_36 : decode cX12_wanders 36 = .ok (.getfield 43, 3) := by decide +kernel
theorem dX12_wanders_39 : decode cX12_wanders 39 = .ok (.iload_n 3, 1) := by decide +kernel
theorem dX12_wanders_40 : decode cX12_wanders 40 = .ok (.iconst 0, 1) := by decide +kernel
theorem dX12_wanders_41 : decode cX12_wanders 41 = .ok (.bipush 99, 2) := by decide +kernel
theorem dX12_wanders_43 : decode cX12_wanders 43 = .ok (.aload_n 0, 1) := by decide +kernel
theorem dX12_wanders_44 : decode cX12_wanders 44 = .ok (.getfield 43, 3) := by decide +kernel
theorem dX12_wanders_47 : decode cX12_wanders 47 = .ok (.iload_n 3, 1) := by decide +kernel
theorem dX12_wanders_48 : decode cX12_wanders 48 = .ok (.iaload, 1) := by decide +kernel
theorem dX12_wanders_49 : decode cX12_wanders 49 = .ok (.iload_n 2, 1) := by decide +kernel
theorem dX12_wanders_50 : decode cX12_wanders 50 = .ok (.bipush 6, 2) := by decide +kernel
theorem dX12_wanders_52 : decode cX12_wanders 52 = .ok (.idiv, 1) := by decide +kernel
theorem dX12_wanders_53 : decode cX12_wanders 53 = .ok (.iconst 2, 1) := by decide +kernel
theorem dX12_wanders_54 : decode cX12_wanders 54 = .ok (.irem, 1) := by decide +kernel
theorem dX12_wanders_55 : decode cX12_wanders 55 = .ok (.ifCond .ne 7, 3) := by decide +kernel
theorem dX12_wanders_58 : decode cX12_wanders 58 = .ok (.iconst 1, 1) := by decide +kernel
theorem dX12_wanders_59 : decode cX12_wanders 59 = .ok (.goto 4, 3) := by decide +kernel
theorem dX12_wanders_62 : decode cX12_wanders 62 = .ok (.iconst (-1), 1) := by decide +kernel
theorem dX12_wanders_63 : decode cX12_wanders 63 = .ok (.iadd, 1) := by decide +kernel
theorem dX12_wanders_64 : decode cX12_wanders 64 = .ok (.invokestatic 124, 3) := by decide +kernel
theorem dX12_wanders_67 : decode cX12_wanders 67 = .ok (.invokestatic 141, 3) := by decide +kernel
theorem dX12_wanders_70 : decode cX12_wanders 70 = .ok (.iastore, 1) := by decide +kernel
theorem dX12_wanders_71 : decode cX12_wanders 71 = .ok (.return_, 1) := by decide +kernel
theorem dX12_sheet_0 : decode cX12_sheet 0 = .ok (.aload_n 0, 1) := by decide +kernel
theorem dX12_sheet_1 : decode cX12_sheet 1 = .ok (.getfield 49, 3) := by decide +kernel
theorem dX12_sheet_4 : decode cX12_sheet 4 = .ok (.iload_n 1, 1) := by decide +kernel
theorem dX12_sheet_5 : decode cX12_sheet 5 = .ok (.iaload, 1) := by decide +kernel
theorem dX12_sheet_6 : decode cX12_sheet 6 = .ok (.istore_n 2, 1) := by decide +kernel
theorem dX12_sheet_7 : decode cX12_sheet 7 = .ok (.aload_n 0, 1) := by decide +kernel
theorem dX12_sheet_8 : decode cX12_sheet 8 = .ok (.getfield 86, 3) := by decide +kernel
theorem dX12_sheet_11 : decode cX12_sheet 11 = .ok (.bipush 96, 2) := by decide +kernel
theorem dX12_sheet_13 : decode cX12_sheet 13 = .ok (.aload_n 0, 1) := by decide +kernel
theorem dX12_sheet_14 : decode cX12_sheet 14 = .ok (.getfield 52, 3) := by decide +kernel
theorem dX12_sheet_17 : decode cX12_sheet 17 = .ok (.iload_n 1, 1) := by decide +kernel
theorem dX12_sheet_18 : decode cX12_sheet 18 = .ok (.iaload, 1) := by decide +kernel
theorem dX12_sheet_19 : decode cX12_sheet 19 = .ok (.iadd, 1) := by decide +kernel
theorem dX12_sheet_20 : decode cX12_sheet 20 = .ok (.dup2, 1) := by decide +kernel
theorem dX12_sheet_21 : decode cX12_sheet 21 = .ok (.iaload, 1) := by decide +kernel
theorem dX12_sheet_22 : decode cX12_sheet 22 = .ok (.aload_n 0, 1) := by decide +kernel
theorem dX12_sheet_23 : decode cX12_sheet 23 = .ok (.getfield 40, 3) := by decide +kernel
theorem dX12_sheet_26 : decode cX12_sheet 26 = .ok (.iload_n 2, 1) := by decide +kernel
theorem dX12_sheet_27 : decode cX12_sheet 27 = .ok (.iaload, 1) := by decide +kernel
theorem dX12_sheet_28 : decode cX12_sheet 28 = .ok (.isub, 1) := by decide +kernel
theorem dX12_sheet_29 : decode cX12_sheet 29 = .ok (.iastore, 1) := by decide +kernel
theorem dX12_sheet_30 : decode cX12_sheet 30 = .ok (.aload_n 0, 1) := by decide +kernel
theorem dX12_sheet_31 : decode cX12_sheet 31 = .ok (.getfield 86, 3) := by decide +kernel
theorem dX12_sheet_34 : decode cX12_sheet 34 = .ok (.bipush 105, 2) := by decide +kernel
theorem dX12_sheet_36 : decode cX12_sheet 36 = .ok (.iconst 2, 1) := by decide +kernel
theorem dX12_sheet_37 : decode cX12_sheet 37 = .ok (.iload_n 1, 1) := by decide +kernel
theorem dX12_sheet_38 : decode cX12_sheet 38 = .ok (.imul, 1) := by decide +kernel
theorem dX12_sheet_39 : decode cX12_sheet 39 = .ok (.iadd, 1) := by decide +kernel
theorem dX12_sheet_40 : decode cX12_sheet 40 = .ok (.iaload, 1) := by decide +kernel
theorem dX12_sheet_41 : decode cX12_sheet 41 = .ok (.istore_n 3, 1) := by decide +kernel
theorem dX12_sheet_42 : decode cX12_sheet 42 = .ok (.iconst 2, 1) := by decide +kernel
theorem dX12_sheet_43 : decode cX12_sheet 43 = .ok (.iload_n 2, 1) := by decide +kernel
theorem dX12_sheet_44 : decode cX12_sheet 44 = .ok (.imul, 1) := by decide +kernel
theorem dX12_sheet_45 : decode cX12_sheet 45 = .ok (.iload_n 3, 1) := by decide +kernel
theorem dX12_sheet_46 : decode cX12_sheet 46 = .ok (.iconst 2, 1) := by decide +kernel
theorem dX12_sheet_47 : decode cX12_sheet 47 = .ok (.irem, 1) := by decide +kernel
theorem dX12_sheet_48 : decode cX12_sheet 48 = .ok (.iadd, 1) := by decide +kernel
theorem dX12_sheet_49 : decode cX12_sheet 49 = .ok (.istore 4, 2) := by decide +kernel
theorem dX12_sheet_51 : decode cX12_sheet 51 = .ok (.aload_n 0, 1) := by decide +kernel
theorem dX12_sheet_52 : decode cX12_sheet 52 = .ok (.getfield 176, 3) := by decide +kernel
theorem dX12_sheet_55 : decode cX12_sheet 55 = .ok (.ifCond .ne 66, 3) := by decide +kernel
theorem dX12_sheet_58 : decode cX12_sheet 58 = .ok (.iconst 0, 1) := by decide +kernel
theorem dX12_sheet_59 : decode cX12_sheet 59 = .ok (.istore 5, 2) := by decide +kernel
theorem dX12_sheet_61 : decode cX12_sheet 61 = .ok (.iload 5, 2) := by decide +kernel
theorem dX12_sheet_63 : decode cX12_sheet 63 = .ok (.bipush 6, 2) := by decide +kernel
theorem dX12_sheet_65 : decode cX12_sheet 65 = .ok (.if_icmp .ge 39, 3) := by decide +kernel
theorem dX12_sheet_68 : decode cX12_sheet 68 = .ok (.aload_n 0, 1) := by decide +kernel
theorem dX12_sheet_69 : decode cX12_sheet 69 = .ok (.getfield 80, 3) := by decide +kernel
theorem dX12_sheet_72 : decode cX12_sheet 72 = .ok (.bipush 6, 2) := by decide +kernel
theorem dX12_sheet_74 : decode cX12_sheet 74 = .ok (.bipush 60, 2) := by decide +kernel
theorem dX12_sheet_76 : decode cX12_sheet 76 = .ok (.iload_n 1, 1) := by decide +kernel
theorem dX12_sheet_77 : decode cX12_sheet 77 = .ok (.imul, 1) := by decide +kernel
theorem dX12_sheet_78 : decode cX12_sheet 78 = .ok (.iload_n 3, 1) := by decide +kernel
theorem dX12_sheet_79 : decode cX12_sheet 79 = .ok (.iadd, 1) := by decide +kernel
theorem dX12_sheet_80 : decode cX12_sheet 80 = .ok (.imul, 1) := by decide +kernel
theorem dX12_sheet_81 : decode cX12_sheet 81 = .ok (.iload 5, 2) := by decide +kernel
theorem dX12_sheet_83 : decode cX12_sheet 83 = .ok (.iadd, 1) := by decide +kernel
theorem dX12_sheet_84 : decode cX12_sheet 84 = .ok (.aload_n 0, 1) := by decide +kernel
theorem dX12_sheet_85 : decode cX12_sheet 85 = .ok (.getfield 43, 3) := by decide +kernel
theorem dX12_sheet_88 : decode cX12_sheet 88 = .ok (.bipush 6, 2) := by decide +kernel
theorem dX12_sheet_90 : decode cX12_sheet 90 = .ok (.iload 4, 2) := by decide +kernel
theorem dX12_sheet_92 : decode cX12_sheet 92 = .ok (.imul, 1) := by decide +kernel
theorem dX12_sheet_93 : decode cX12_sheet 93 = .ok (.iload 5, 2) := by decide +kernel
theorem dX12_sheet_95 : decode cX12_sheet 95 = .ok (.iadd, 1) := by decide +kernel
theorem dX12_sheet_96 : decode cX12_sheet 96 = .ok (.iaload, 1) := by decide +kernel
theorem dX12_sheet_97 : decode cX12_sheet 97 = .ok (.iastore, 1) := by decide +kernel
theorem dX12_sheet_98 : decode cX12_sheet 98 = .ok (.iinc 5 1, 3) := by decide +kernel
theorem dX12_sheet_101 : decode cX12_sheet 101 = .ok (.goto (-40), 3) := by decide +kernel
theorem dX12_sheet_104 : decode cX12_sheet 104 = .ok (.aload_n 0, 1) := by decide +kernel
theorem dX12_sheet_105 : decode cX12_sheet 105 = .ok (.getfield 46, 3) := by decide +kernel
theorem dX12_sheet_108 : decode cX12_sheet 108 = .ok (.iload 4, 2) := by decide +kernel
theorem dX12_sheet_110 : decode cX12_sheet 110 = .ok (.dup2, 1) := by decide +kernel
theorem dX12_sheet_111 : decode cX12_sheet 111 = .ok (.iaload, 1) := by decide +kernel
theorem dX12_sheet_112 : decode cX12_sheet 112 = .ok (.iconst 1, 1) := by decide +kernel
theorem dX12_sheet_113 : decode cX12_sheet 113 = .ok (.iadd, 1) := by decide +kernel
theorem dX12_sheet_114 : decode cX12_sheet 114 = .ok (.iastore, 1) := by decide +kernel
theorem dX12_sheet_115 : decode cX12_sheet 115 = .ok (.aload_n 0, 1) := by decide +kernel
theorem dX12_sheet_116 : decode cX12_sheet 116 = .ok (.iload 4, 2) := by decide +kernel
theorem dX12_sheet_118 : decode cX12_sheet 118 = .ok (.invokevirtual 180, 3) := by decide +kernel
theorem dX12_sheet_121 : decode cX12_sheet 121 = .ok (.aload_n 0, 1) := by decide +kernel
theorem dX12_sheet_122 : decode cX12_sheet 122 = .ok (.getfield 86, 3) := by decide +kernel
theorem dX12_sheet_125 : decode cX12_sheet 125 = .ok (.sipush 753, 3) := by decide +kernel
theorem dX12_sheet_128 : decode cX12_sheet 128 = .ok (.dup2, 1) := by decide +kernel
theorem dX12_sheet_129 : decode cX12_sheet 129 = .ok (.iaload, 1) := by decide +kernel
theorem dX12_sheet_130 : decode cX12_sheet 130 = .ok (.iconst 1, 1) := by decide +kernel
theorem dX12_sheet_131 : decode cX12_sheet 131 = .ok (.iadd, 1) := by decide +kernel
theorem dX12_sheet_132 : decode cX12_sheet 132 = .ok (.iastore, 1) := by decide +kernel
theorem dX12_sheet_133 : decode cX12_sheet 133 = .ok (.aload_n 0, 1) := by decide +kernel
theorem dX12_sheet_134 : decode cX12_sheet 134 = .ok (.getfield 86, 3) := by decide +kernel
theorem dX12_sheet_137 : decode cX12_sheet 137 = .ok (.bipush 105, 2) := by decide +kernel
theorem dX12_sheet_139 : decode cX12_sheet 139 = .ok (.iconst 2, 1) := by decide +kernel
theorem dX12_sheet_140 : decode cX12_sheet 140 = .ok (.iload_n 1, 1) := by decide +kernel
theorem dX12_sheet_141 : decode cX12_sheet 141 = .ok (.imul, 1) := by decide +kernel
theorem dX12_sheet_142 : decode cX12_sheet 142 = .ok (.iadd, 1) := by decide +kernel
theorem dX12_sheet_143 : decode cX12_sheet 143 = .ok (.dup2, 1) := by decide +kernel
theorem dX12_sheet_144 : decode cX12_sheet 144 = .ok (.iaload, 1) := by decide +kernel
theorem dX12_sheet_145 : decode cX12_sheet 145 = .ok (.iconst 1, 1) := by decide +kernel
theorem dX12_sheet_146 : decode cX12_sheet 146 = .ok (.iadd, 1) := by decide +kernel
theorem dX12_sheet_147 : decode cX12_sheet 147 = .ok (.iastore, 1) := by decide +kernel
theorem dX12_sheet_148 : decode cX12_sheet 148 = .ok (.iload_n 3, 1) := by decide +kernel
theorem dX12_sheet_149 : decode cX12_sheet 149 = .ok (.iconst 1, 1) := by decide +kernel
theorem dX12_sheet_150 : decode cX12_sheet 150 = .ok (.iadd, 1) := by decide +kernel
theorem dX12_sheet_151 : decode cX12_sheet 151 = .ok (.bipush 60, 2) := by decide +kernel
theorem dX12_sheet_153 : decode cX12_sheet 153 = .ok (.if_icmp .ge 4, 3) := by decide +kernel
theorem dX12_sheet_156 : decode cX12_sheet 156 = .ok (.return_, 1) := by decide +kernel
theorem dX12_sheet_157 : decode cX12_sheet 157 = .ok (.aload_n 0, 1) := by decide +kernel
theorem dX12_sheet_158 : decode cX12_sheet 158 = .ok (.getfield 86, 3) := by decide +kernel
theorem dX12_sheet_161 : decode cX12_sheet 161 = .ok (.bipush 105, 2) := by decide +kernel
theorem dX12_sheet_163 : decode cX12_sheet 163 = .ok (.iconst 2, 1) := by decide +kernel
theorem dX12_sheet_164 : decode cX12_sheet 164 = .ok (.iload_n 1, 1) := by decide +kernel
theorem dX12_sheet_165 : decode cX12_sheet 165 = .ok (.imul, 1) := by decide +kernel
theorem dX12_sheet_166 : decode cX12_sheet 166 = .ok (.iadd, 1) := by decide +kernel
theorem dX12_sheet_167 : decode cX12_sheet 167 = .ok (.iconst 0, 1) := by decide +kernel
theorem dX12_sheet_168 : decode cX12_sheet 168 = .ok (.iastore, 1) := by decide +kernel
theorem dX12_sheet_169 : decode cX12_sheet 169 = .ok (.aload_n 0, 1) := by decide +kernel
theorem dX12_sheet_170 : decode cX12_sheet 170 = .ok (.getfield 86, 3) := by decide +kernel
theorem dX12_sheet_173 : decode cX12_sheet 173 = .ok (.sipush 752, 3) := by decide +kernel
theorem dX12_sheet_176 : decode cX12_sheet 176 = .ok (.iaload, 1) := by decide +kernel
theorem dX12_sheet_177 : decode cX12_sheet 177 = .ok (.istore 5, 2) := by decide +kernel
theorem dX12_sheet_179 : decode cX12_sheet 179 = .ok (.aload_n 0, 1) := by decide +kernel
theorem dX12_sheet_180 : decode cX12_sheet 180 = .ok (.getfield 86, 3) := by decide +kernel
theorem dX12_sheet_183 : decode cX12_sheet 183 = .ok (.sipush 752, 3) := by decide +kernel
theorem dX12_sheet_186 : decode cX12_sheet 186 = .ok (.dup2, 1) := by decide +kernel
theorem dX12_sheet_187 : decode cX12_sheet 187 = .ok (.iaload, 1) := by decide +kernel
theorem dX12_sheet_188 : decode cX12_sheet 188 = .ok (.iconst 1, 1) := by decide +kernel
theorem dX12_sheet_189 : decode cX12_sheet 189 = .ok (.iadd, 1) := by decide +kernel
theorem dX12_sheet_190 : decode cX12_sheet 190 = .ok (.iastore, 1) := by decide +kernel
theorem dX12_sheet_191 : decode cX12_sheet 191 = .ok (.aload_n 0, 1) := by decide +kernel
theorem dX12_sheet_192 : decode cX12_sheet 192 = .ok (.iload 5, 2) := by decide +kernel
theorem dX12_sheet_194 : decode cX12_sheet 194 = .ok (.iconst 0, 1) := by decide +kernel
theorem dX12_sheet_195 : decode cX12_sheet 195 = .ok (.iconst 0, 1) := by decide +kernel
theorem dX12_sheet_196 : decode cX12_sheet 196 = .ok (.invokevirtual 144, 3) := by decide +kernel
theorem dX12_sheet_199 : decode cX12_sheet 199 = .ok (.aload_n 0, 1) := by decide +kernel
theorem dX12_sheet_200 : decode cX12_sheet 200 = .ok (.iload 5, 2) := by decide +kernel
theorem dX12_sheet_202 : decode cX12_sheet 202 = .ok (.iconst 1, 1) := by decide +kernel
theorem dX12_sheet_203 : decode cX12_sheet 203 = .ok (.iload_n 2, 1) := by decide +kernel
theorem dX12_sheet_204 : decode cX12_sheet 204 = .ok (.invokevirtual 144, 3) := by decide +kernel
theorem dX12_sheet_207 : decode cX12_sheet 207 = .ok (.aload_n 0, 1) := by decide +kernel
theorem dX12_sheet_208 : decode cX12_sheet 208 = .ok (.iload 5, 2) := by decide +kernel
theorem dX12_sheet_210 : decode cX12_sheet 210 = .ok (.iconst 2, 1) := by decide +kernel
theorem dX12_sheet_211 : decode cX12_sheet 211 = .ok (.aload_n 0, 1) := by decide +kernel
theorem dX12_sheet_212 : decode cX12_sheet 212 = .ok (.getfield 52, 3) := by decide +kernel
theorem dX12_sheet_215 : decode cX12_sheet 215 = .ok (.iload_n 1, 1) := by decide +kernel
theorem dX12_sheet_216 : decode cX12_sheet 216 = .ok (.iaload, 1) := by decide +kernel
theorem dX12_sheet_217 : decode cX12_sheet 217 = .ok (.invokevirtual 144, 3) := by decide +kernel
theorem dX12_sheet_220 : decode cX12_sheet 220 = .ok (.aload_n 0, 1) := by decide +kernel
theorem dX12_sheet_221 : decode cX12_sheet 221 = .ok (.iload 5, 2) := by decide +kernel
theorem dX12_sheet_223 : decode cX12_sheet 223 = .ok (.iconst 3, 1) := by decide +kernel
theorem dX12_sheet_224 : decode cX12_sheet 224 = .ok (.aload_n 0, 1) := by decide +kernel
theorem dX12_sheet_225 : decode cX12_sheet 225 = .ok (.getfield 86, 3) := by decide +kernel
theorem dX12_sheet_228 : decode cX12_sheet 228 = .ok (.sipush 751, 3) := by decide +kernel
theorem dX12_sheet_231 : decode cX12_sheet 231 = .ok (.iaload, 1) := by decide +kernel
theorem dX12_sheet_232 : decode cX12_sheet 232 = .ok (.invokevirtual 144, 3) := by decide +kernel
theorem dX12_sheet_235 : decode cX12_sheet 235 = .ok (.aload_n 0, 1) := by decide +kernel
theorem dX12_sheet_236 : decode cX12_sheet 236 = .ok (.iload 5, 2) := by decide +kernel
theorem dX12_sheet_238 : decode cX12_sheet 238 = .ok (.iconst 4, 1) := by decide +kernel
theorem dX12_sheet_239 : decode cX12_sheet 239 = .ok (.bipush (-9), 2) := by decide +kernel
theorem dX12_sheet_241 : decode cX12_sheet 241 = .ok (.invokevirtual 144, 3) := by decide +kernel
theorem dX12_sheet_244 : decode cX12_sheet 244 = .ok (.aload_n 0, 1) := by decide +kernel
theorem dX12_sheet_245 : decode cX12_sheet 245 = .ok (.iload 5, 2) := by decide +kernel
theorem dX12_sheet_247 : decode cX12_sheet 247 = .ok (.iconst 5, 1) := by decide +kernel
theorem dX12_sheet_248 : decode cX12_sheet 248 = .ok (.iconst 0, 1) := by decide +kernel
theorem dX12_sheet_249 : decode cX12_sheet 249 = .ok (.invokevirtual 144, 3) := by decide +kernel
theorem dX12_sheet_252 : decode cX12_sheet 252 = .ok (.aload_n 0, 1) := by decide +kernel
theorem dX12_sheet_253 : decode cX12_sheet 253 = .ok (.iload 5, 2) := by decide +kernel
theorem dX12_sheet_255 : decode cX12_sheet 255 = .ok (.bipush 6, 2) := by decide +kernel
theorem dX12_sheet_257 : decode cX12_sheet 257 = .ok (.bipush (-9), 2) := by decide +kernel
theorem dX12_sheet_259 : decode cX12_sheet 259 = .ok (.invokevirtual 144, 3) := by decide +kernel
theorem dX12_sheet_262 : decode cX12_sheet 262 = .ok (.aload_n 0, 1) := by decide +kernel
theorem dX12_sheet_263 : decode cX12_sheet 263 = .ok (.iload 5, 2) := by decide +kernel
theorem dX12_sheet_265 : decode cX12_sheet 265 = .ok (.bipush 7, 2) := by decide +kernel
theorem dX12_sheet_267 : decode cX12_sheet 267 = .ok (.bipush (-9), 2) := by decide +kernel
theorem dX12_sheet_269 : decode cX12_sheet 269 = .ok (.invokevirtual 144, 3) := by decide +kernel
theorem dX12_sheet_272 : decode cX12_sheet 272 = .ok (.iconst 0, 1) := by decide +kernel
theorem dX12_sheet_273 : decode cX12_sheet 273 = .ok (.istore 6, 2) := by decide +kernel
theorem dX12_sheet_275 : decode cX12_sheet 275 = .ok (.iload 6, 2) := by decide +kernel
theorem dX12_sheet_277 : decode cX12_sheet 277 = .ok (.sipush 360, 3) := by decide +kernel
theorem dX12_sheet_280 : decode cX12_sheet 280 = .ok (.if_icmp .ge 43, 3) := by decide +kernel
theorem dX12_sheet_283 : decode cX12_sheet 283 = .ok (.aload_n 0, 1) := by decide +kernel
theorem dX12_sheet_284 : decode cX12_sheet 284 = .ok (.getfield 176, 3) := by decide +kernel
theorem dX12_sheet_287 : decode cX12_sheet 287 = .ok (.ifCond .ne 36, 3) := by decide +kernel
theorem dX12_sheet_290 : decode cX12_sheet 290 = .ok (.aload_n 0, 1) := by decide +kernel
theorem dX12_sheet_291 : decode cX12_sheet 291 = .ok (.getfield 77, 3) := by decide +kernel
theorem dX12_sheet_294 : decode cX12_sheet 294 = .ok (.sipush 360, 3) := by decide +kernel
theorem dX12_sheet_297 : decode cX12_sheet 297 = .ok (.iload 5, 2) := by decide +kernel
theorem dX12_sheet_299 : decode cX12_sheet 299 = .ok (.imul, 1) := by decide +kernel
theorem dX12_sheet_300 : decode cX12_sheet 300 = .ok (.iload 6, 2) := by decide +kernel
theorem dX12_sheet_302 : decode cX12_sheet 302 = .ok (.iadd, 1) := by decide +kernel
theorem dX12_sheet_303 : decode cX12_sheet 303 = .ok (.aload_n 0, 1) := by decide +kernel
theorem dX12_sheet_304 : decode cX12_sheet 304 = .ok (.getfield 80, 3) := by decide +kernel
theorem dX12_sheet_307 : decode cX12_sheet 307 = .ok (.sipush 360, 3) := by decide +kernel
theorem dX12_sheet_310 : decode cX12_sheet 310 = .ok (.iload_n 1, 1) := by decide +kernel
theorem dX12_sheet_311 : decode cX12_sheet 311 = .ok (.imul, 1) := by decide +kernel
theorem dX12_sheet_312 : decode cX12_sheet 312 = .ok (.iload 6, 2) := by decide +kernel
theorem dX12_sheet_314 : decode cX12_sheet 314 = .ok (.iadd, 1) := by decide +kernel
theorem dX12_sheet_315 : decode cX12_sheet 315 = .ok (.iaload, 1) := by decide +kernel
theorem dX12_sheet_316 : decode cX12_sheet 316 = .ok (.iastore, 1) := by decide +kernel
theorem dX12_sheet_317 : decode cX12_sheet 317 = .ok (.iinc 6 1, 3) := by decide +kernel
theorem dX12_sheet_320 : decode cX12_sheet 320 = .ok (.goto (-45), 3) := by decide +kernel
theorem dX12_sheet_323 : decode cX12_sheet 323 = .ok (.return_, 1) := by decide +kernel
theorem dX12_hasPulp_0 : decode cX12_hasPulp 0 = .ok (.aload_n 0, 1) := by decide +kernel
theorem dX12_hasPulp_1 : decode cX12_hasPulp 1 = .ok (.getfield 86, 3) := by decide +kernel
theorem dX12_hasPulp_4 : decode cX12_hasPulp 4 = .ok (.sipush 752, 3) := by decide +kernel
theorem dX12_hasPulp_7 : decode cX12_hasPulp 7 = .ok (.iaload, 1) := by decide +kernel
theorem dX12_hasPulp_8 : decode cX12_hasPulp 8 = .ok (.bipush 80, 2) := by decide +kernel
theorem dX12_hasPulp_10 : decode cX12_hasPulp 10 = .ok (.if_icmp .ge 35, 3) := by decide +kernel
theorem dX12_hasPulp_13 : decode cX12_hasPulp 13 = .ok (.aload_n 0, 1) := by decide +kernel
theorem dX12_hasPulp_14 : decode cX12_hasPulp 14 = .ok (.getfield 86, 3) := by decide +kernel
theorem dX12_hasPulp_17 : decode cX12_hasPulp 17 = .ok (.bipush 96, 2) := by decide +kernel
theorem dX12_hasPulp_19 : decode cX12_hasPulp 19 = .ok (.aload_n 0, 1) := by decide +kernel
theorem dX12_hasPulp_20 : decode cX12_hasPulp 20 = .ok (.getfield 52, 3) := by decide +kernel
theorem dX12_hasPulp_23 : decode cX12_hasPulp 23 = .ok (.iload_n 1, 1) := by decide +kernel
theorem dX12_hasPulp_24 : decode cX12_hasPulp 24 = .ok (.iaload, 1) := by decide +kernel
theorem dX12_hasPulp_25 : decode cX12_hasPulp 25 = .ok (.iadd, 1) := by decide +kernel
theorem dX12_hasPulp_26 : decode cX12_hasPulp 26 = .ok (.iaload, 1) := by decide +kernel
theorem dX12_hasPulp_27 : decode cX12_hasPulp 27 = .ok (.aload_n 0, 1) := by decide +kernel
theorem dX12_hasPulp_28 : decode cX12_hasPulp 28 = .ok (.getfield 40, 3) := by decide +kernel
theorem dX12_hasPulp_31 : decode cX12_hasPulp 31 = .ok (.aload_n 0, 1) := by decide +kernel
theorem dX12_hasPulp_32 : decode cX12_hasPulp 32 = .ok (.getfield 49, 3) := by decide +kernel
theorem dX12_hasPulp_35 : decode cX12_hasPulp 35 = .ok (.iload_n 1, 1) := by decide +kernel
theorem dX12_hasPulp_36 : decode cX12_hasPulp 36 = .ok (.iaload, 1) := by decide +kernel
theorem dX12_hasPulp_37 : decode cX12_hasPulp 37 = .ok (.iaload, 1) := by decide +kernel
theorem dX12_hasPulp_38 : decode cX12_hasPulp 38 = .ok (.if_icmp .lt 7, 3) := by decide +kernel
theorem dX12_hasPulp_41 : decode cX12_hasPulp 41 = .ok (.iconst 1, 1) := by decide +kernel
theorem dX12_hasPulp_42 : decode cX12_hasPulp 42 = .ok (.goto 4, 3) := by decide +kernel
theorem dX12_hasPulp_45 : decode cX12_hasPulp 45 = .ok (.iconst 0, 1) := by decide +kernel
theorem dX12_hasPulp_46 : decode cX12_hasPulp 46 = .ok (.ireturn, 1) := by decide +kernel
theorem dX12_works_0 : decode cX12_works 0 = .ok (.iload_n 1, 1) := by decide +kernel
theorem dX12_works_1 : decode cX12_works 1 = .ok (.istore_n 2, 1) := by decide +kernel
theorem dX12_works_2 : decode cX12_works 2 = .ok (.iconst 0, 1) := by decide +kernel
theorem dX12_works_3 : decode cX12_works 3 = .ok (.istore_n 3, 1) := by decide +kernel
theorem dX12_works_4 : decode cX12_works 4 = .ok (.iload_n 3, 1) := by decide +kernel
theorem dX12_works_5 : decode cX12_works 5 = .ok (.iconst 4, 1) := by decide +kernel
theorem dX12_works_6 : decode cX12_works 6 = .ok (.if_icmp .ge 118, 3) := by decide +kernel
theorem dX12_works_9 : decode cX12_works 9 = .ok (.bipush 80, 2) := by decide +kernel
theorem dX12_works_11 : decode cX12_works 11 = .ok (.iconst 4, 1) := by decide +kernel
theorem dX12_works_12 : decode cX12_works 12 = .ok (.iload_n 3, 1) := by decide +kernel
theorem dX12_works_13 : decode cX12_works 13 = .ok (.imul, 1) := by decide +kernel
theorem dX12_works_14 : decode cX12_works 14 = .ok (.iadd, 1) := by decide +kernel
theorem dX12_works_15 : decode cX12_works 15 = .ok (.istore 4, 2) := by decide +kernel
theorem dX12_works_17 : decode cX12_works 17 = .ok (.aload_n 0, 1) := by decide +kernel
theorem dX12_works_18 : decode cX12_works 18 = .ok (.getfield 86, 3) := by decide +kernel
theorem dX12_works_21 : decode cX12_works 21 = .ok (.iload 4, 2) := by decide +kernel
theorem dX12_works_23 : decode cX12_works 23 = .ok (.iaload, 1) := by decide +kernel
theorem dX12_works_24 : decode cX12_works 24 = .ok (.ifCond .eq 94, 3) := by decide +kernel
theorem dX12_works_27 : decode cX12_works 27 = .ok (.iload_n 2, 1) := by decide +kernel
theorem dX12_works_28 : decode cX12_works 28 = .ok (.bipush 6, 2) := by decide +kernel
theorem dX12_works_30 : decode cX12_works 30 = .ok (.if_icmp .ge 6, 3) := by decide +kernel
theorem dX12_works_33 : decode cX12_works 33 = .ok (.goto 85, 3) := by decide +kernel
theorem dX12_works_36 : decode cX12_works 36 = .ok (.iinc 2 (-6), 3) := by decide +kernel
theorem dX12_works_39 : decode cX12_works 39 = .ok (.aload_n 0, 1) := by decide +kernel
theorem dX12_works_40 : decode cX12_works 40 = .ok (.getfield 86, 3) := by decide +kernel
theorem dX12_works_43 : decode cX12_works 43 = .ok (.iload 4, 2) := by decide +kernel
theorem dX12_works_45 : decode cX12_works 45 = .ok (.iconst 2, 1) := by decide +kernel
theorem dX12_works_46 : decode cX12_works 46 = .ok (.iadd, 1) := by decide +kernel
theorem dX12_works_47 : decode cX12_works 47 = .ok (.dup2, 1) := by decide +kernel
theorem dX12_works_48 : decode cX12_works 48 = .ok (.iaload, 1) := by decide +kernel
theorem dX12_works_49 : decode cX12_works 49 = .ok (.iconst 1, 1) := by decide +kernel
theorem dX12_works_50 : decode cX12_works 50 = .ok (.isub, 1) := by decide +kernel
theorem dX12_works_51 : decode cX12_works 51 = .ok (.iastore, 1) := by decide +kernel
theorem dX12_works_52 : decode cX12_works 52 = .ok (.aload_n 0, 1) := by decide +kernel
theorem dX12_works_53 : decode cX12_works 53 = .ok (.getfield 86, 3) := by decide +kernel
theorem dX12_works_56 : decode cX12_works 56 = .ok (.iload 4, 2) := by decide +kernel
theorem dX12_works_58 : decode cX12_works 58 = .ok (.iconst 2, 1) := by decide +kernel
theorem dX12_works_59 : decode cX12_works 59 = .ok (.iadd, 1) := by decide +kernel
theorem dX12_works_60 : decode cX12_works 60 = .ok (.iaload, 1) := by decide +kernel
theorem dX12_works_61 : decode cX12_works 61 = .ok (.ifCond .le 6, 3) := by decide +kernel
theorem dX12_works_64 : decode cX12_works 64 = .ok (.goto 54, 3) := by decide +kernel
theorem dX12_works_67 : decode cX12_works 67 = .ok (.aload_n 0, 1) := by decide +kernel
theorem dX12_works_68 : decode cX12_works 68 = .ok (.getfield 86, 3) := by decide +kernel
theorem dX12_works_71 : decode cX12_works 71 = .ok (.bipush 96, 2) := by decide +kernel
theorem dX12_works_73 : decode cX12_works 73 = .ok (.aload_n 0, 1) := by decide +kernel
theorem dX12_works_74 : decode cX12_works 74 = .ok (.getfield 86, 3) := by decide +kernel
theorem dX12_works_77 : decode cX12_works 77 = .ok (.iload 4, 2) := by decide +kernel
theorem dX12_works_79 : decode cX12_works 79 = .ok (.iconst 1, 1) := by decide +kernel
theorem dX12_works_80 : decode cX12_works 80 = .ok (.iadd, 1) := by decide +kernel
theorem dX12_works_81 : decode cX12_works 81 = .ok (.iaload, 1) := by decide +kernel
theorem dX12_works_82 : decode cX12_works 82 = .ok (.iadd, 1) := by decide +kernel
theorem dX12_works_83 : decode cX12_works 83 = .ok (.dup2, 1) := by decide +kernel
theorem dX12_works_84 : decode cX12_works 84 = .ok (.iaload, 1) := by decide +kernel
theorem dX12_works_85 : decode cX12_works 85 = .ok (.bipush 14, 2) := by decide +kernel
theorem dX12_works_87 : decode cX12_works 87 = .ok (.aload_n 0, 1) := by decide +kernel
theorem dX12_works_88 : decode cX12_works 88 = .ok (.getfield 86, 3) := by decide +kernel
theorem dX12_works_91 : decode cX12_works 91 = .ok (.iload 4, 2) := by decide +kernel
theorem dX12_works_93 : decode cX12_works 93 = .ok (.iaload, 1) := by decide +kernel
theorem dX12_works_94 : decode cX12_works 94 = .ok (.imul, 1) := by decide +kernel
theorem dX12_works_95 : decode cX12_works 95 = .ok (.iadd, 1) := by decide +kernel
theorem dX12_works_96 : decode cX12_works 96 = .ok (.iastore, 1) := by decide +kernel
theorem dX12_works_97 : decode cX12_works 97 = .ok (.aload_n 0, 1) := by decide +kernel
theorem dX12_works_98 : decode cX12_works 98 = .ok (.getfield 86, 3) := by decide +kernel
theorem dX12_works_101 : decode cX12_works 101 = .ok (.iload 4, 2) := by decide +kernel
theorem dX12_works_103 : decode cX12_works 103 = .ok (.iconst 0, 1) := by decide +kernel
theorem dX12_works_104 : decode cX12_works 104 = .ok (.iastore, 1) := by decide +kernel
theorem dX12_works_105 : decode cX12_works 105 = .ok (.aload_n 0, 1) := by decide +kernel
theorem dX12_works_106 : decode cX12_works 106 = .ok (.getfield 86, 3) := by decide +kernel
theorem dX12_works_109 : decode cX12_works 109 = .ok (.iload 4, 2) := by decide +kernel
theorem dX12_works_111 : decode cX12_works 111 = .ok (.iconst 3, 1) := by decide +kernel
theorem dX12_works_112 : decode cX12_works 112 = .ok (.iadd, 1) := by decide +kernel
theorem dX12_works_113 : decode cX12_works 113 = .ok (.dup2, 1) := by decide +kernel
theorem dX12_works_114 : decode cX12_works 114 = .ok (.iaload, 1) := by decide +kernel
theorem dX12_works_115 : decode cX12_works 115 = .ok (.iconst 1, 1) := by decide +kernel
theorem dX12_works_116 : decode cX12_works 116 = .ok (.iadd, 1) := by decide +kernel
theorem dX12_works_117 : decode cX12_works 117 = .ok (.iastore, 1) := by decide +kernel
theorem dX12_works_118 : decode cX12_works 118 = .ok (.iinc 3 1, 3) := by decide +kernel
theorem dX12_works_121 : decode cX12_works 121 = .ok (.goto (-117), 3) := by decide +kernel
theorem dX12_works_124 : decode cX12_works 124 = .ok (.iconst 0, 1) := by decide +kernel
theorem dX12_works_125 : decode cX12_works 125 = .ok (.istore_n 3, 1) := by decide +kernel
theorem dX12_works_126 : decode cX12_works 126 = .ok (.iload_n 3, 1) := by decide +kernel
theorem dX12_works_127 : decode cX12_works 127 = .ok (.iconst 3, 1) := by decide +kernel
theorem dX12_works_128 : decode cX12_works 128 = .ok (.if_icmp .ge 86, 3) := by decide +kernel
theorem dX12_works_131 : decode cX12_works 131 = .ok (.aload_n 0, 1) := by decide +kernel
theorem dX12_works_132 : decode cX12_works 132 = .ok (.getfield 49, 3) := by decide +kernel
theorem dX12_works_135 : decode cX12_works 135 = .ok (.iload_n 3, 1) := by decide +kernel
theorem dX12_works_136 : decode cX12_works 136 = .ok (.iaload, 1) := by decide +kernel
theorem dX12_works_137 : decode cX12_works 137 = .ok (.ifCond .ge 6, 3) := by decide +kernel
theorem dX12_works_140 : decode cX12_works 140 = .ok (.goto 68, 3) := by decide +kernel
theorem dX12_works_143 : decode cX12_works 143 = .ok (.iload_n 2, 1) := by decide +kernel
theorem dX12_works_144 : decode cX12_works 144 = .ok (.iconst 2, 1) := by decide +kernel
theorem dX12_works_145 : decode cX12_works 145 = .ok (.if_icmp .lt 11, 3) := by decide +kernel
theorem dX12_works_148 : decode cX12_works 148 = .ok (.aload_n 0, 1) := by decide +kernel
theorem dX12_works_149 : decode cX12_works 149 = .ok (.iload_n 3, 1) := by decide +kernel
theorem dX12_works_150 : decode cX12_works 150 = .ok (.invokevirtual 184, 3) := by decide +kernel
theorem dX12_works_153 : decode cX12_works 153 = .ok (.ifCond .ne 23, 3) := by decide +kernel
theorem dX12_works_156 : decode cX12_works 156 = .ok (.aload_n 0, 1) := by decide +kernel
theorem dX12_works_157 : decode cX12_works 157 = .ok (.getfield 86, 3) := by decide +kernel
theorem dX12_works_160 : decode cX12_works 160 = .ok (.bipush 105, 2) := by decide +kernel
theorem dX12_works_162 : decode cX12_works 162 = .ok (.iconst 2, 1) := by decide +kernel
theorem dX12_works_163 : decode cX12_works 163 = .ok (.iload_n 3, 1) := by decide +kernel
theorem dX12_works_164 : decode cX12_works 164 = .ok (.imul, 1) := by decide +kernel
theorem dX12_works_165 : decode cX12_works 165 = .ok (.iadd, 1) := by decide +kernel
theorem dX12_works_166 : decode cX12_works 166 = .ok (.iconst 1, 1) := by decide +kernel
theorem dX12_works_167 : decode cX12_works 167 = .ok (.iadd, 1) := by decide +kernel
theorem dX12_works_168 : decode cX12_works 168 = .ok (.dup2, 1) := by decide +kernel
theorem dX12_works_169 : decode cX12_works 169 = .ok (.iaload, 1) := by decide +kernel
theorem dX12_works_170 : decode cX12_works 170 = .ok (.iconst 1, 1) := by decide +kernel
theorem dX12_works_171 : decode cX12_works 171 = .ok (.iadd, 1) := by decide +kernel
theorem dX12_works_172 : decode cX12_works 172 = .ok (.iastore, 1) := by decide +kernel
theorem dX12_works_173 : decode cX12_works 173 = .ok (.goto 35, 3) := by decide +kernel
theorem dX12_works_176 : decode cX12_works 176 = .ok (.iinc 2 (-2), 3) := by decide +kernel
theorem dX12_works_179 : decode cX12_works 179 = .ok (.iconst 0, 1) := by decide +kernel
theorem dX12_works_180 : decode cX12_works 180 = .ok (.istore 4, 2) := by decide +kernel
theorem dX12_works_182 : decode cX12_works 182 = .ok (.iload 4, 2) := by decide +kernel
theorem dX12_works_184 : decode cX12_works 184 = .ok (.bipush 20, 2) := by decide +kernel
theorem dX12_works_186 : decode cX12_works 186 = .ok (.if_icmp .ge 22, 3) := by decide +kernel
theorem dX12_works_189 : decode cX12_works 189 = .ok (.aload_n 0, 1) := by decide +kernel
theorem dX12_works_190 : decode cX12_works 190 = .ok (.iload_n 3, 1) := by decide +kernel
theorem dX12_works_191 : decode cX12_works 191 = .ok (.invokevirtual 184, 3) := by decide +kernel
theorem dX12_works_194 : decode cX12_works 194 = .ok (.ifCond .eq 14, 3) := by decide +kernel
theorem dX12_works_197 : decode cX12_works 197 = .ok (.aload_n 0, 1) := by decide +kernel
theorem dX12_works_198 : decode cX12_works 198 = .ok (.iload_n 3, 1) := by decide +kernel
theorem dX12_works_199 : decode cX12_works 199 = .ok (.invokevirtual 187, 3) := by decide +kernel
theorem dX12_works_202 : decode cX12_works 202 = .ok (.iinc 4 1, 3) := by decide +kernel
theorem dX12_works_205 : decode cX12_works 205 = .ok (.goto (-23), 3) := by decide +kernel
theorem dX12_works_208 : decode cX12_works 208 = .ok (.iinc 3 1, 3) := by decide +kernel
theorem dX12_works_211 : decode cX12_works 211 = .ok (.goto (-85), 3) := by decide +kernel
theorem dX12_works_214 : decode cX12_works 214 = .ok (.return_, 1) := by decide +kernel
theorem dX12_inState_0 : decode cX12_inState 0 = .ok (.iconst 0, 1) := by decide +kernel
theorem dX12_inState_1 : decode cX12_inState 1 = .ok (.istore_n 2, 1) := by decide +kernel
theorem dX12_inState_2 : decode cX12_inState 2 = .ok (.iconst 0, 1) := by decide +kernel
theorem dX12_inState_3 : decode cX12_inState 3 = .ok (.istore_n 3, 1) := by decide +kernel
theorem dX12_inState_4 : decode cX12_inState 4 = .ok (.iload_n 3, 1) := by decide +kernel
theorem dX12_inState_5 : decode cX12_inState 5 = .ok (.aload_n 0, 1) := by decide +kernel
theorem dX12_inState_6 : decode cX12_inState 6 = .ok (.getfield 86, 3) := by decide +kernel
theorem dX12_inState_9 : decode cX12_inState 9 = .ok (.sipush 752, 3) := by decide +kernel
theorem dX12_inState_12 : decode cX12_inState 12 = .ok (.iaload, 1) := by decide +kernel
theorem dX12_inState_13 : decode cX12_inState 13 = .ok (.if_icmp .ge 27, 3) := by decide +kernel
theorem dX12_inState_16 : decode cX12_inState 16 = .ok (.iload_n 2, 1) := by decide +kernel
theorem dX12_inState_17 : decode cX12_inState 17 = .ok (.aload_n 0, 1) := by decide +kernel
theorem dX12_inState_18 : decode cX12_inState 18 = .ok (.iload_n 3, 1) := by decide +kernel
theorem dX12_inState_19 : decode cX12_inState 19 = .ok (.iconst 0, 1) := by decide +kernel
theorem dX12_inState_20 : decode cX12_inState 20 = .ok (.invokevirtual 138, 3) := by decide +kernel
theorem dX12_inState_23 : decode cX12_inState 23 = .ok (.iload_n 1, 1) := by decide +kernel
theorem dX12_inState_24 : decode cX12_inState 24 = .ok (.if_icmp .ne 7, 3) := by decide +kernel
theorem dX12_inState_27 : decode cX12_inState 27 = .ok (.iconst 1, 1) := by decide +kernel
theorem dX12_inState_28 : decode cX12_inState 28 = .ok (.goto 4, 3) := by decide +kernel
theorem dX12_inState_31 : decode cX12_inState 31 = .ok (.iconst 0, 1) := by decide +kernel
theorem dX12_inState_32 : decode cX12_inState 32 = .ok (.iadd, 1) := by decide +kernel
theorem dX12_inState_33 : decode cX12_inState 33 = .ok (.istore_n 2, 1) := by decide +kernel
theorem dX12_inState_34 : decode cX12_inState 34 = .ok (.iinc 3 1, 3) := by decide +kernel
theorem dX12_inState_37 : decode cX12_inState 37 = .ok (.goto (-33), 3) := by decide +kernel
theorem dX12_inState_40 : decode cX12_inState 40 = .ok (.iload_n 2, 1) := by decide +kernel
theorem dX12_inState_41 : decode cX12_inState 41 = .ok (.ireturn, 1) := by decide +kernel
theorem dX12_hour_0 : decode cX12_hour 0 = .ok (.aload_n 0, 1) := by decide +kernel
theorem dX12_hour_1 : decode cX12_hour 1 = .ok (.getfield 86, 3) := by decide +kernel
theorem dX12_hour_4 : decode cX12_hour 4 = .ok (.sipush 751, 3) := by decide +kernel
theorem dX12_hour_7 : decode cX12_hour 7 = .ok (.iaload, 1) := by decide +kernel
theorem dX12_hour_8 : decode cX12_hour 8 = .ok (.bipush 24, 2) := by decide +kernel
theorem dX12_hour_10 : decode cX12_hour 10 = .ok (.idiv, 1) := by decide +kernel
theorem dX12_hour_11 : decode cX12_hour 11 = .ok (.istore_n 1, 1) := by decide +kernel
theorem dX12_hour_12 : decode cX12_hour 12 = .ok (.aload_n 0, 1) := by decide +kernel
theorem dX12_hour_13 : decode cX12_hour 13 = .ok (.getfield 86, 3) := by decide +kernel
theorem dX12_hour_16 : decode cX12_hour 16 = .ok (.sipush 751, 3) := by decide +kernel
theorem dX12_hour_19 : decode cX12_hour 19 = .ok (.dup2, 1) := by decide +kernel
theorem dX12_hour_20 : decode cX12_hour 20 = .ok (.iaload, 1) := by decide +kernel
theorem dX12_hour_21 : decode cX12_hour 21 = .ok (.iconst 1, 1) := by decide +kernel
theorem dX12_hour_22 : decode cX12_hour 22 = .ok (.iadd, 1) := by decide +kernel
theorem dX12_hour_23 : decode cX12_hour 23 = .ok (.iastore, 1) := by decide +kernel
theorem dX12_hour_24 : decode cX12_hour 24 = .ok (.aload_n 0, 1) := by decide +kernel
theorem dX12_hour_25 : decode cX12_hour 25 = .ok (.iload_n 1, 1) := by decide +kernel
theorem dX12_hour_26 : decode cX12_hour 26 = .ok (.iconst 2, 1) := by decide +kernel
theorem dX12_hour_27 : decode cX12_hour 27 = .ok (.invokevirtual 107, 3) := by decide +kernel
theorem dX12_hour_30 : decode cX12_hour 30 = .ok (.iconst 1, 1) := by decide +kernel
theorem dX12_hour_31 : decode cX12_hour 31 = .ok (.if_icmp .ne 7, 3) := by decide +kernel
theorem dX12_hour_34 : decode cX12_hour 34 = .ok (.iconst 1, 1) := by decide +kernel
theorem dX12_hour_35 : decode cX12_hour 35 = .ok (.goto 4, 3) := by decide +kernel
theorem dX12_hour_38 : decode cX12_hour 38 = .ok (.iconst 0, 1) := by decide +kernel
theorem dX12_hour_39 : decode cX12_hour 39 = .ok (.istore_n 2, 1) := by decide +kernel
theorem dX12_hour_40 : decode cX12_hour 40 = .ok (.iload_n 2, 1) := by decide +kernel
theorem dX12_hour_41 : decode cX12_hour 41 = .ok (.ifCond .eq 49, 3) := by decide +kernel
theorem dX12_hour_44 : decode cX12_hour 44 = .ok (.iconst 0, 1) := by decide +kernel
theorem dX12_hour_45 : decode cX12_hour 45 = .ok (.istore_n 3, 1) := by decide +kernel
theorem dX12_hour_46 : decode cX12_hour 46 = .ok (.iload_n 3, 1) := by decide +kernel
theorem dX12_hour_47 : decode cX12_hour 47 = .ok (.iconst 3, 1) := by decide +kernel
theorem dX12_hour_48 : decode cX12_hour 48 = .ok (.if_icmp .ge 39, 3) := by decide +kernel
theorem dX12_hour_51 : decode cX12_hour 51 = .ok (.aload_n 0, 1) := by decide +kernel
theorem dX12_hour_52 : decode cX12_hour 52 = .ok (.getfield 86, 3) := by decide +kernel
theorem dX12_hour_55 : decode cX12_hour 55 = .ok (.bipush 105, 2) := by decide +kernel
theorem dX12_hour_57 : decode cX12_hour 57 = .ok (.iconst 2, 1) := by decide +kernel
theorem dX12_hour_58 : decode cX12_hour 58 = .ok (.iload_n 3, 1) := by decide +kernel
theorem dX12_hour_59 : decode cX12_hour 59 = .ok (.imul, 1) := by decide +kernel
theorem dX12_hour_60 : decode cX12_hour 60 = .ok (.iadd, 1) := by decide +kernel
theorem dX12_hour_61 : decode cX12_hour 61 = .ok (.iconst 1, 1) := by decide +kernel
theorem dX12_hour_62 : decode cX12_hour 62 = .ok (.iadd, 1) := by decide +kernel
theorem dX12_hour_63 : decode cX12_hour 63 = .ok (.dup2, 1) := by decide +kernel
theorem dX12_hour_64 : decode cX12_hour 64 = .ok (.iaload, 1) := by decide +kernel
theorem dX12_hour_65 : decode cX12_hour 65 = .ok (.aload_n 0, 1) := by decide +kernel
theorem dX12_hour_66 : decode cX12_hour 66 = .ok (.getfield 49, 3) := by decide +kernel
theorem dX12_hour_69 : decode cX12_hour 69 = .ok (.iload_n 3, 1) := by decide +kernel
theorem dX12_hour_70 : decode cX12_hour 70 = .ok (.iaload, 1) := by decide +kernel
theorem dX12_hour_71 : decode cX12_hour 71 = .ok (.ifCond .ge 7, 3) := by decide +kernel
theorem dX12_hour_74 : decode cX12_hour 74 = .ok (.iconst 0, 1) := by decide +kernel
theorem dX12_hour_75 : decode cX12_hour 75 = .ok (.goto 4, 3) := by decide +kernel
theorem dX12_hour_78 : decode cX12_hour 78 = .ok (.iconst 1, 1) := by decide +kernel
theorem dX12_hour_79 : decode cX12_hour 79 = .ok (.iadd, 1) := by decide +kernel
theorem dX12_hour_80 : decode cX12_hour 80 = .ok (.iastore, 1) := by decide +kernel
theorem dX12_hour_81 : decode cX12_hour 81 = .ok (.iinc 3 1, 3) := by decide +kernel
theorem dX12_hour_84 : decode cX12_hour 84 = .ok (.goto (-38), 3) := by decide +kernel
theorem dX12_hour_87 : decode cX12_hour 87 = .ok (.goto 13, 3) := by decide +kernel
theorem dX12_hour_90 : decode cX12_hour 90 = .ok (.aload_n 0, 1) := by decide +kernel
theorem dX12_hour_91 : decode cX12_hour 91 = .ok (.aload_n 0, 1) := by decide +kernel
theorem dX12_hour_92 : decode cX12_hour 92 = .ok (.iload_n 1, 1) := by decide +kernel
theorem dX12_hour_93 : decode cX12_hour 93 = .ok (.iconst 0, 1) := by decide +kernel
theorem dX12_hour_94 : decode cX12_hour 94 = .ok (.invokevirtual 107, 3) := by decide +kernel
theorem dX12_hour_97 : decode cX12_hour 97 = .ok (.invokevirtual 190, 3) := by decide +kernel
theorem dX12_hour_100 : decode cX12_hour 100 = .ok (.aload_n 0, 1) := by decide +kernel
theorem dX12_hour_101 : decode cX12_hour 101 = .ok (.iconst 1, 1) := by decide +kernel
theorem dX12_hour_102 : decode cX12_hour 102 = .ok (.invokevirtual 193, 3) := by decide +kernel
theorem dX12_hour_105 : decode cX12_hour 105 = .ok (.istore_n 3, 1) := by decide +kernel
theorem dX12_hour_106 : decode cX12_hour 106 = .ok (.iconst 0, 1) := by decide +kernel
theorem dX12_hour_107 : decode cX12_hour 107 = .ok (.istore 4, 2) := by decide +kernel
theorem dX12_hour_109 : decode cX12_hour 109 = .ok (.iload 4, 2) := by decide +kernel
theorem dX12_hour_111 : decode cX12_hour 111 = .ok (.aload_n 0, 1) := by decide +kernel
theorem dX12_hour_112 : decode cX12_hour 112 = .ok (.getfield 86, 3) := by decide +kernel
theorem dX12_hour_115 : decode cX12_hour 115 = .ok (.sipush 752, 3) := by decide +kernel
theorem dX12_hour_118 : decode cX12_hour 118 = .ok (.iaload, 1) := by decide +kernel
theorem dX12_hour_119 : decode cX12_hour 119 = .ok (.if_icmp .ge 56, 3) := by decide +kernel
theorem dX12_hour_122 : decode cX12_hour 122 = .ok (.aload_n 0, 1) := by decide +kernel
theorem dX12_hour_123 : decode cX12_hour 123 = .ok (.iload 4, 2) := by decide +kernel
theorem dX12_hour_125 : decode cX12_hour 125 = .ok (.iconst 0, 1) := by decide +kernel
theorem dX12_hour_126 : decode cX12_hour 126 = .ok (.invokevirtual 138, 3) := by decide +kernel
theorem dX12_hour_129 : decode cX12_hour 129 = .ok (.ifCond .ne 40, 3) := by decide +kernel
theorem dX12_hour_132 : decode cX12_hour 132 = .ok (.iload_n 3, 1) := by decide +kernel
theorem dX12_hour_133 : decode cX12_hour 133 = .ok (.aload_n 0, 1) := by decide +kernel
theorem dX12_hour_134 : decode cX12_hour 134 = .ok (.getfield 55, 3) := by decide +kernel
theorem dX12_hour_137 : decode cX12_hour 137 = .ok (.if_icmp .lt 6, 3) := by decide +kernel
theorem dX12_hour_140 : decode cX12_hour 140 = .ok (.goto 29, 3) := by decide +kernel
theorem dX12_hour_143 : decode cX12_hour 143 = .ok (.aload_n 0, 1) := by decide +kernel
theorem dX12_hour_144 : decode cX12_hour 144 = .ok (.iload 4, 2) := by decide +kernel
theorem dX12_hour_146 : decode cX12_hour 146 = .ok (.iconst 0, 1) := by decide +kernel
theorem dX12_hour_147 : decode cX12_hour 147 = .ok (.iconst 1, 1) := by decide +kernel
theorem dX12_hour_148 : decode cX12_hour 148 = .ok (.invokevirtual 144, 3) := by decide +kernel
theorem dX12_hour_151 : decode cX12_hour 151 = .ok (.aload_n 0, 1) := by decide +kernel
theorem dX12_hour_152 : decode cX12_hour 152 = .ok (.iload 4, 2) := by decide +kernel
theorem dX12_hour_154 : decode cX12_hour 154 = .ok (.iconst 4, 1) := by decide +kernel
theorem dX12_hour_155 : decode cX12_hour 155 = .ok (.aload_n 0, 1) := by decide +kernel
theorem dX12_hour_156 : decode cX12_hour 156 = .ok (.getfield 86, 3) := by decide +kernel
theorem dX12_hour_159 : decode cX12_hour 159 = .ok (.sipush 751, 3) := by decide +kernel
theorem dX12_hour_162 : decode cX12_hour 162 = .ok (.iaload, 1) := by decide +kernel
theorem dX12_hour_163 : decode cX12_hour 163 = .ok (.invokevirtual 144, 3) := by decide +kernel
theorem dX12_hour_166 : decode cX12_hour 166 = .ok (.iinc 3 1, 3) := by decide +kernel
theorem dX12_hour_169 : decode cX12_hour 169 = .ok (.iinc 4 1, 3) := by decide +kernel
theorem dX12_hour_172 : decode cX12_hour 172 = .ok (.goto (-63), 3) := by decide +kernel
theorem dX12_hour_175 : decode cX12_hour 175 = .ok (.iload_n 2, 1) := by decide +kernel
theorem dX12_hour_176 : decode cX12_hour 176 = .ok (.ifCond .eq 7, 3) := by decide +kernel
theorem dX12_hour_179 : decode cX12_hour 179 = .ok (.iconst 0, 1) := by decide +kernel
theorem dX12_hour_180 : decode cX12_hour 180 = .ok (.goto 9, 3) := by decide +kernel
theorem dX12_hour_183 : decode cX12_hour 183 = .ok (.aload_n 0, 1) := by decide +kernel
theorem dX12_hour_184 : decode cX12_hour 184 = .ok (.iload_n 1, 1) := by decide +kernel
theorem dX12_hour_185 : decode cX12_hour 185 = .ok (.iconst 1, 1) := by decide +kernel
theorem dX12_hour_186 : decode cX12_hour 186 = .ok (.invokevirtual 107, 3) := by decide +kernel
theorem dX12_hour_189 : decode cX12_hour 189 = .ok (.istore 4, 2) := by decide +kernel
theorem dX12_hour_191 : decode cX12_hour 191 = .ok (.iconst 0, 1) := by decide +kernel
theorem dX12_hour_192 : decode cX12_hour 192 = .ok (.istore 5, 2) := by decide +kernel
theorem dX12_hour_194 : decode cX12_hour 194 = .ok (.iload 5, 2) := by decide +kernel
theorem dX12_hour_196 : decode cX12_hour 196 = .ok (.aload_n 0, 1) := by decide +kernel
theorem dX12_hour_197 : decode cX12_hour 197 = .ok (.getfield 86, 3) := by decide +kernel
theorem dX12_hour_200 : decode cX12_hour 200 = .ok (.sipush 752, 3) := by decide +kernel
theorem dX12_hour_203 : decode cX12_hour 203 = .ok (.iaload, 1) := by decide +kernel
theorem dX12_hour_204 : decode cX12_hour 204 = .ok (.if_icmp .ge 79, 3) := by decide +kernel
theorem dX12_hour_207 : decode cX12_hour 207 = .ok (.aload_n 0, 1) := by decide +kernel
theorem dX12_hour_208 : decode cX12_hour 208 = .ok (.iload 5, 2) := by decide +kernel
theorem dX12_hour_210 : decode cX12_hour 210 = .ok (.iconst 0, 1) := by decide +kernel
theorem dX12_hour_211 : decode cX12_hour 211 = .ok (.invokevirtual 138, 3) := by decide +kernel
theorem dX12_hour_214 : decode cX12_hour 214 = .ok (.iconst 1, 1) := by decide +kernel
theorem dX12_hour_215 : decode cX12_hour 215 = .ok (.if_icmp .eq 6, 3) := by decide +kernel
theorem dX12_hour_218 : decode cX12_hour 218 = .ok (.goto 59, 3) := by decide +kernel
theorem dX12_hour_221 : decode cX12_hour 221 = .ok (.aload_n 0, 1) := by decide +kernel
theorem dX12_hour_222 : decode cX12_hour 222 = .ok (.iload 5, 2) := by decide +kernel
theorem dX12_hour_224 : decode cX12_hour 224 = .ok (.iconst 5, 1) := by decide +kernel
theorem dX12_hour_225 : decode cX12_hour 225 = .ok (.aload_n 0, 1) := by decide +kernel
theorem dX12_hour_226 : decode cX12_hour 226 = .ok (.iload 5, 2) := by decide +kernel
theorem dX12_hour_228 : decode cX12_hour 228 = .ok (.iconst 5, 1) := by decide +kernel
theorem dX12_hour_229 : decode cX12_hour 229 = .ok (.invokevirtual 138, 3) := by decide +kernel
theorem dX12_hour_232 : decode cX12_hour 232 = .ok (.iload 4, 2) := by decide +kernel
theorem dX12_hour_234 : decode cX12_hour 234 = .ok (.iadd, 1) := by decide +kernel
theorem dX12_hour_235 : decode cX12_hour 235 = .ok (.invokevirtual 144, 3) := by decide +kernel
theorem dX12_hour_238 : decode cX12_hour 238 = .ok (.aload_n 0, 1) := by decide +kernel
theorem dX12_hour_239 : decode cX12_hour 239 = .ok (.iload 5, 2) := by decide +kernel
theorem dX12_hour_241 : decode cX12_hour 241 = .ok (.iconst 5, 1) := by decide +kernel
theorem dX12_hour_242 : decode cX12_hour 242 = .ok (.invokevirtual 138, 3) := by decide +kernel
theorem dX12_hour_245 : decode cX12_hour 245 = .ok (.bipush 40, 2) := by decide +kernel
theorem dX12_hour_247 : decode cX12_hour 247 = .ok (.if_icmp .ge 6, 3) := by decide +kernel
theorem dX12_hour_250 : decode cX12_hour 250 = .ok (.goto 27, 3) := by decide +kernel
theorem dX12_hour_253 : decode cX12_hour 253 = .ok (.aload_n 0, 1) := by decide +kernel
theorem dX12_hour_254 : decode cX12_hour 254 = .ok (.iload 5, 2) := by decide +kernel
theorem dX12_hour_256 : decode cX12_hour 256 = .ok (.iconst 0, 1) := by decide +kernel
theorem dX12_hour_257 : decode cX12_hour 257 = .ok (.iconst 2, 1) := by decide +kernel
theorem dX12_hour_258 : decode cX12_hour 258 = .ok (.invokevirtual 144, 3) := by decide +kernel
theorem dX12_hour_261 : decode cX12_hour 261 = .ok (.aload_n 0, 1) := by decide +kernel
theorem dX12_hour_262 : decode cX12_hour 262 = .ok (.iload 5, 2) := by decide +kernel
theorem dX12_hour_264 : decode cX12_hour 264 = .ok (.bipush 6, 2) := by decide +kernel
theorem dX12_hour_266 : decode cX12_hour 266 = .ok (.aload_n 0, 1) := by decide +kernel
theorem dX12_hour_267 : decode cX12_hour 267 = .ok (.getfield 86, 3) := by decide +kernel
theorem dX12_hour_270 : decode cX12_hour 270 = .ok (.sipush 751, 3) := by decide +kernel
theorem dX12_hour_273 : decode cX12_hour 273 = .ok (.iaload, 1) := by decide +kernel
theorem dX12_hour_274 : decode cX12_hour 274 = .ok (.invokevirtual 144, 3) := by decide +kernel
theorem dX12_hour_277 : decode cX12_hour 277 = .ok (.iinc 5 1, 3) := by decide +kernel
theorem dX12_hour_280 : decode cX12_hour 280 = .ok (.goto (-86), 3) := by decide +kernel
theorem dX12_hour_283 : decode cX12_hour 283 = .ok (.iconst 0, 1) := by decide +kernel
theorem dX12_hour_284 : decode cX12_hour 284 = .ok (.istore 5, 2) := by decide +kernel
theorem dX12_hour_286 : decode cX12_hour 286 = .ok (.iload 5, 2) := by decide +kernel
theorem dX12_hour_288 : decode cX12_hour 288 = .ok (.aload_n 0, 1) := by decide +kernel
