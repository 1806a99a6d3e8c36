theorem dX12_init_173 : decode cX12_init 173 = .ok (.bipush 12, 2) := by decide +kernel
theorem dX12_init_175 : decode cX12_init 175 = .ok (.newarray .int, 2) := by decide +kernel
theorem dX12_init_177 : decode cX12_init 177 = .ok (.putfield 71, 3) := by decide +kernel
theorem dX12_init_180 : decode cX12_init 180 = .ok (.aload_n 0, 1) := by decide +kernel
theorem dX12_init_181 : decode cX12_init 181 = .ok (.bipush 12, 2) := by decide +kernel
theorem dX12_init_183 : decode cX12_init 183 = .ok (.newarray .int, 2) := by decide +kernel
theorem dX12_init_185 : decode cX12_init 185 = .ok (.putfield 74, 3) := by decide +kernel
theorem dX12_init_188 : decode cX12_init 188 = .ok (.aload_n 0, 1) := by decide +kernel
theorem dX12_init_189 : decode cX12_init 189 = .ok (.sipush 28800, 3) := by decide +kernel
theorem dX12_init_192 : decode cX12_init 192 = .ok (.newarray .int, 2) := by decide +kernel
theorem dX12_init_194 : decode cX12_init 194 = .ok (.putfield 77, 3) := by decide +kernel
theorem dX12_init_197 : decode cX12_init 197 = .ok (.aload_n 0, 1) := by decide +kernel
theorem dX12_init_198 : decode cX12_init 198 = .ok (.sipush 1080, 3) := by decide +kernel
theorem dX12_init_201 : decode cX12_init 201 = .ok (.newarray .int, 2) := by decide +kernel
theorem dX12_init_203 : decode cX12_init 203 = .ok (.putfield 80, 3) := by decide +kernel
theorem dX12_init_206 : decode cX12_init 206 = .ok (.aload_n 0, 1) := by decide +kernel
theorem dX12_init_207 : decode cX12_init 207 = .ok (.bipush 6, 2) := by decide +kernel
theorem dX12_init_209 : decode cX12_init 209 = .ok (.newarray .int, 2) := by decide +kernel
theorem dX12_init_211 : decode cX12_init 211 = .ok (.dup, 1) := by decide +kernel
theorem dX12_init_212 : decode cX12_init 212 = .ok (.iconst 0, 1) := by decide +kernel
theorem dX12_init_213 : decode cX12_init 213 = .ok (.iconst (-1), 1) := by decide +kernel
theorem dX12_init_214 : decode cX12_init 214 = .ok (.iastore, 1) := by decide +kernel
theorem dX12_init_215 : decode cX12_init 215 = .ok (.dup, 1) := by decide +kernel
theorem dX12_init_216 : decode cX12_init 216 = .ok (.iconst 1, 1) := by decide +kernel
theorem dX12_init_217 : decode cX12_init 217 = .ok (.iconst (-1), 1) := by decide +kernel
theorem dX12_init_218 : decode cX12_init 218 = .ok (.iastore, 1) := by decide +kernel
theorem dX12_init_219 : decode cX12_init 219 = .ok (.dup, 1) := by decide +kernel
theorem dX12_init_220 : decode cX12_init 220 = .ok (.iconst 2, 1) := by decide +kernel
theorem dX12_init_221 : decode cX12_init 221 = .ok (.iconst (-1), 1) := by decide +kernel
theorem dX12_init_222 : decode cX12_init 222 = .ok (.iastore, 1) := by decide +kernel
theorem dX12_init_223 : decode cX12_init 223 = .ok (.dup, 1) := by decide +kernel
theorem dX12_init_224 : decode cX12_init 224 = .ok (.iconst 3, 1) := by decide +kernel
theorem dX12_init_225 : decode cX12_init 225 = .ok (.iconst (-1), 1) := by decide +kernel
theorem dX12_init_226 : decode cX12_init 226 = .ok (.iastore, 1) := by decide +kernel
theorem dX12_init_227 : decode cX12_init 227 = .ok (.dup, 1) := by decide +kernel
theorem dX12_init_228 : decode cX12_init 228 = .ok (.iconst 4, 1) := by decide +kernel
theorem dX12_init_229 : decode cX12_init 229 = .ok (.iconst (-1), 1) := by decide +kernel
theorem dX12_init_230 : decode cX12_init 230 = .ok (.iastore, 1) := by decide +kernel
theorem dX12_init_231 : decode cX12_init 231 = .ok (.dup, 1) := by decide +kernel
theorem dX12_init_232 : decode cX12_init 232 = .ok (.iconst 5, 1) := by decide +kernel
theorem dX12_init_233 : decode cX12_init 233 = .ok (.iconst (-1), 1) := by decide +kernel
theorem dX12_init_234 : decode cX12_init 234 = .ok (.iastore, 1) := by decide +kernel
theorem dX12_init_235 : decode cX12_init 235 = .ok (.putfield 83, 3) := by decide +kernel
theorem dX12_init_238 : decode cX12_init 238 = .ok (.aload_n 0, 1) := by decide +kernel
theorem dX12_init_239 : decode cX12_init 239 = .ok (.sipush 755, 3) := by decide +kernel
theorem dX12_init_242 : decode cX12_init 242 = .ok (.newarray .int, 2) := by decide +kernel
theorem dX12_init_244 : decode cX12_init 244 = .ok (.putfield 86, 3) := by decide +kernel
theorem dX12_init_247 : decode cX12_init 247 = .ok (.aload_n 0, 1) := by decide +kernel
theorem dX12_init_248 : decode cX12_init 248 = .ok (.sipush 755, 3) := by decide +kernel
theorem dX12_init_251 : decode cX12_init 251 = .ok (.newarray .int, 2) := by decide +kernel
theorem dX12_init_253 : decode cX12_init 253 = .ok (.putfield 89, 3) := by decide +kernel
theorem dX12_init_256 : decode cX12_init 256 = .ok (.aload_n 0, 1) := by decide +kernel
theorem dX12_init_257 : decode cX12_init 257 = .ok (.bipush 12, 2) := by decide +kernel
theorem dX12_init_259 : decode cX12_init 259 = .ok (.newarray .int, 2) := by decide +kernel
theorem dX12_init_261 : decode cX12_init 261 = .ok (.putfield 92, 3) := by decide +kernel
theorem dX12_init_264 : decode cX12_init 264 = .ok (.iconst 0, 1) := by decide +kernel
theorem dX12_init_265 : decode cX12_init 265 = .ok (.istore_n 1, 1) := by decide +kernel
theorem dX12_init_266 : decode cX12_init 266 = .ok (.iload_n 1, 1) := by decide +kernel
theorem dX12_init_267 : decode cX12_init 267 = .ok (.bipush 101, 2) := by decide +kernel
theorem dX12_init_269 : decode cX12_init 269 = .ok (.if_icmp .ge 26, 3) := by decide +kernel
theorem dX12_init_272 : decode cX12_init 272 = .ok (.aload_n 0, 1) := by decide +kernel
theorem dX12_init_273 : decode cX12_init 273 = .ok (.getfield 13, 3) := by decide +kernel
theorem dX12_init_276 : decode cX12_init 276 = .ok (.iload_n 1, 1) := by decide +kernel
theorem dX12_init_277 : decode cX12_init 277 = .ok (.iconst (-1), 1) := by decide +kernel
theorem dX12_init_278 : decode cX12_init 278 = .ok (.iastore, 1) := by decide +kernel
theorem dX12_init_279 : decode cX12_init 279 = .ok (.aload_n 0, 1) := by decide +kernel
theorem dX12_init_280 : decode cX12_init 280 = .ok (.getfield 13, 3) := by decide +kernel
theorem dX12_init_283 : decode cX12_init 283 = .ok (.bipush 101, 2) := by decide +kernel
theorem dX12_init_285 : decode cX12_init 285 = .ok (.iload_n 1, 1) := by decide +kernel
theorem dX12_init_286 : decode cX12_init 286 = .ok (.iadd, 1) := by decide +kernel
theorem dX12_init_287 : decode cX12_init 287 = .ok (.iconst (-1), 1) := by decide +kernel
theorem dX12_init_288 : decode cX12_init 288 = .ok (.iastore, 1) := by decide +kernel
theorem dX12_init_289 : decode cX12_init 289 = .ok (.iinc 1 1, 3) := by decide +kernel
theorem dX12_init_292 : decode cX12_init 292 = .ok (.goto (-26), 3) := by decide +kernel
theorem dX12_init_295 : decode cX12_init 295 = .ok (.iconst 0, 1) := by decide +kernel
theorem dX12_init_296 : decode cX12_init 296 = .ok (.istore_n 1, 1) := by decide +kernel
theorem dX12_init_297 : decode cX12_init 297 = .ok (.iload_n 1, 1) := by decide +kernel
theorem dX12_init_298 : decode cX12_init 298 = .ok (.bipush 9, 2) := by decide +kernel
theorem dX12_init_300 : decode cX12_init 300 = .ok (.if_icmp .ge 32, 3) := by decide +kernel
theorem dX12_init_303 : decode cX12_init 303 = .ok (.aload_n 0, 1) := by decide +kernel
theorem dX12_init_304 : decode cX12_init 304 = .ok (.getfield 16, 3) := by decide +kernel
theorem dX12_init_307 : decode cX12_init 307 = .ok (.iload_n 1, 1) := by decide +kernel
theorem dX12_init_308 : decode cX12_init 308 = .ok (.iconst 5, 1) := by decide +kernel
theorem dX12_init_309 : decode cX12_init 309 = .ok (.iastore, 1) := by decide +kernel
theorem dX12_init_310 : decode cX12_init 310 = .ok (.aload_n 0, 1) := by decide +kernel
theorem dX12_init_311 : decode cX12_init 311 = .ok (.getfield 19, 3) := by decide +kernel
theorem dX12_init_314 : decode cX12_init 314 = .ok (.iload_n 1, 1) := by decide +kernel
theorem dX12_init_315 : decode cX12_init 315 = .ok (.bipush 10, 2) := by decide +kernel
theorem dX12_init_317 : decode cX12_init 317 = .ok (.iastore, 1) := by decide +kernel
theorem dX12_init_318 : decode cX12_init 318 = .ok (.aload_n 0, 1) := by decide +kernel
theorem dX12_init_319 : decode cX12_init 319 = .ok (.getfield 22, 3) := by decide +kernel
theorem dX12_init_322 : decode cX12_init 322 = .ok (.iload_n 1, 1) := by decide +kernel
theorem dX12_init_323 : decode cX12_init 323 = .ok (.bipush 8, 2) := by decide +kernel
theorem dX12_init_325 : decode cX12_init 325 = .ok (.iastore, 1) := by decide +kernel
theorem dX12_init_326 : decode cX12_init 326 = .ok (.iinc 1 1, 3) := by decide +kernel
theorem dX12_init_329 : decode cX12_init 329 = .ok (.goto (-32), 3) := by decide +kernel
theorem dX12_init_332 : decode cX12_init 332 = .ok (.return_, 1) := by decide +kernel
theorem dX12_refuse_0 : decode cX12_refuse 0 = .ok (.aload_n 0, 1) := by decide +kernel
theorem dX12_refuse_1 : decode cX12_refuse 1 = .ok (.getfield 7, 3) := by decide +kernel
theorem dX12_refuse_4 : decode cX12_refuse 4 = .ok (.iload_n 1, 1) := by decide +kernel
theorem dX12_refuse_5 : decode cX12_refuse 5 = .ok (.ineg, 1) := by decide +kernel
theorem dX12_refuse_6 : decode cX12_refuse 6 = .ok (.dup2, 1) := by decide +kernel
theorem dX12_refuse_7 : decode cX12_refuse 7 = .ok (.iaload, 1) := by decide +kernel
theorem dX12_refuse_8 : decode cX12_refuse 8 = .ok (.iconst 1, 1) := by decide +kernel
theorem dX12_refuse_9 : decode cX12_refuse 9 = .ok (.iadd, 1) := by decide +kernel
theorem dX12_refuse_10 : decode cX12_refuse 10 = .ok (.iastore, 1) := by decide +kernel
theorem dX12_refuse_11 : decode cX12_refuse 11 = .ok (.iload_n 1, 1) := by decide +kernel
theorem dX12_refuse_12 : decode cX12_refuse 12 = .ok (.ireturn, 1) := by decide +kernel
theorem dX12_isIn_0 : decode cX12_isIn 0 = .ok (.iload_n 0, 1) := by decide +kernel
theorem dX12_isIn_1 : decode cX12_isIn 1 = .ok (.ifCond .lt 12, 3) := by decide +kernel
theorem dX12_isIn_4 : decode cX12_isIn 4 = .ok (.iload_n 0, 1) := by decide +kernel
theorem dX12_isIn_5 : decode cX12_isIn 5 = .ok (.iload_n 1, 1) := by decide +kernel
theorem dX12_isIn_6 : decode cX12_isIn 6 = .ok (.if_icmp .ge 7, 3) := by decide +kernel
theorem dX12_isIn_9 : decode cX12_isIn 9 = .ok (.iconst 1, 1) := by decide +kernel
theorem dX12_isIn_10 : decode cX12_isIn 10 = .ok (.goto 4, 3) := by decide +kernel
theorem dX12_isIn_13 : decode cX12_isIn 13 = .ok (.iconst 0, 1) := by decide +kernel
theorem dX12_isIn_14 : decode cX12_isIn 14 = .ok (.ireturn, 1) := by decide +kernel
theorem dX12_wrong_0 : decode cX12_wrong 0 = .ok (.iload_n 0, 1) := by decide +kernel
theorem dX12_wrong_1 : decode cX12_wrong 1 = .ok (.iload_n 1, 1) := by decide +kernel
theorem dX12_wrong_2 : decode cX12_wrong 2 = .ok (.if_icmp .ge 8, 3) := by decide +kernel
theorem dX12_wrong_5 : decode cX12_wrong 5 = .ok (.bipush (-4), 2) := by decide +kernel
theorem dX12_wrong_7 : decode cX12_wrong 7 = .ok (.goto 14, 3) := by decide +kernel
theorem dX12_wrong_10 : decode cX12_wrong 10 = .ok (.iload_n 0, 1) := by decide +kernel
theorem dX12_wrong_11 : decode cX12_wrong 11 = .ok (.iload_n 2, 1) := by decide +kernel
theorem dX12_wrong_12 : decode cX12_wrong 12 = .ok (.if_icmp .le 8, 3) := by decide +kernel
theorem dX12_wrong_15 : decode cX12_wrong 15 = .ok (.bipush (-6), 2) := by decide +kernel
theorem dX12_wrong_17 : decode cX12_wrong 17 = .ok (.goto 4, 3) := by decide +kernel
theorem dX12_wrong_20 : decode cX12_wrong 20 = .ok (.iconst 0, 1) := by decide +kernel
theorem dX12_wrong_21 : decode cX12_wrong 21 = .ok (.ireturn, 1) := by decide +kernel
theorem dX12_reckoned_0 : decode cX12_reckoned 0 = .ok (.iload_n 2, 1) := by decide +kernel
theorem dX12_reckoned_1 : decode cX12_reckoned 1 = .ok (.iconst 2, 1) := by decide +kernel
theorem dX12_reckoned_2 : decode cX12_reckoned 2 = .ok (.if_icmp .ne 14, 3) := by decide +kernel
theorem dX12_reckoned_5 : decode cX12_reckoned 5 = .ok (.aload_n 0, 1) := by decide +kernel
theorem dX12_reckoned_6 : decode cX12_reckoned 6 = .ok (.getfield 13, 3) := by decide +kernel
theorem dX12_reckoned_9 : decode cX12_reckoned 9 = .ok (.sipush 202, 3) := by decide +kernel
theorem dX12_reckoned_12 : decode cX12_reckoned 12 = .ok (.iload_n 1, 1) := by decide +kernel
theorem dX12_reckoned_13 : decode cX12_reckoned 13 = .ok (.iadd, 1) := by decide +kernel
theorem dX12_reckoned_14 : decode cX12_reckoned 14 = .ok (.iaload, 1) := by decide +kernel
theorem dX12_reckoned_15 : decode cX12_reckoned 15 = .ok (.ireturn, 1) := by decide +kernel
theorem dX12_reckoned_16 : decode cX12_reckoned 16 = .ok (.aload_n 0, 1) := by decide +kernel
theorem dX12_reckoned_17 : decode cX12_reckoned 17 = .ok (.getfield 13, 3) := by decide +kernel
theorem dX12_reckoned_20 : decode cX12_reckoned 20 = .ok (.bipush 101, 2) := by decide +kernel
theorem dX12_reckoned_22 : decode cX12_reckoned 22 = .ok (.iload_n 2, 1) := by decide +kernel
theorem dX12_reckoned_23 : decode cX12_reckoned 23 = .ok (.imul, 1) := by decide +kernel
theorem dX12_reckoned_24 : decode cX12_reckoned 24 = .ok (.iload_n 1, 1) := by decide +kernel
theorem dX12_reckoned_25 : decode cX12_reckoned 25 = .ok (.iadd, 1) := by decide +kernel
theorem dX12_reckoned_26 : decode cX12_reckoned 26 = .ok (.iaload, 1) := by decide +kernel
theorem dX12_reckoned_27 : decode cX12_reckoned 27 = .ok (.ifCond .lt 15, 3) := by decide +kernel
theorem dX12_reckoned_30 : decode cX12_reckoned 30 = .ok (.aload_n 0, 1) := by decide +kernel
theorem dX12_reckoned_31 : decode cX12_reckoned 31 = .ok (.getfield 13, 3) := by decide +kernel
theorem dX12_reckoned_34 : decode cX12_reckoned 34 = .ok (.bipush 101, 2) := by decide +kernel
theorem dX12_reckoned_36 : decode cX12_reckoned 36 = .ok (.iload_n 2, 1) := by decide +kernel
theorem dX12_reckoned_37 : decode cX12_reckoned 37 = .ok (.imul, 1) := by decide +kernel
theorem dX12_reckoned_38 : decode cX12_reckoned 38 = .ok (.iload_n 1, 1) := by decide +kernel
theorem dX12_reckoned_39 : decode cX12_reckoned 39 = .ok (.iadd, 1) := by decide +kernel
theorem dX12_reckoned_40 : decode cX12_reckoned 40 = .ok (.iaload, 1) := by decide +kernel
theorem dX12_reckoned_41 : decode cX12_reckoned 41 = .ok (.ireturn, 1) := by decide +kernel
theorem dX12_reckoned_42 : decode cX12_reckoned 42 = .ok (.iconst (-1), 1) := by decide +kernel
theorem dX12_reckoned_43 : decode cX12_reckoned 43 = .ok (.istore_n 3, 1) := by decide +kernel
theorem dX12_reckoned_44 : decode cX12_reckoned 44 = .ok (.iconst (-1), 1) := by decide +kernel
theorem dX12_reckoned_45 : decode cX12_reckoned 45 = .ok (.istore 4, 2) := by decide +kernel
theorem dX12_reckoned_47 : decode cX12_reckoned 47 = .ok (.iconst 0, 1) := by decide +kernel
theorem dX12_reckoned_48 : decode cX12_reckoned 48 = .ok (.istore 5, 2) := by decide +kernel
theorem dX12_reckoned_50 : decode cX12_reckoned 50 = .ok (.iload 5, 2) := by decide +kernel
theorem dX12_reckoned_52 : decode cX12_reckoned 52 = .ok (.iload_n 1, 1) := by decide +kernel
theorem dX12_reckoned_53 : decode cX12_reckoned 53 = .ok (.if_icmp .ge 37, 3) := by decide +kernel
theorem dX12_reckoned_56 : decode cX12_reckoned 56 = .ok (.aload_n 0, 1) := by decide +kernel
theorem dX12_reckoned_57 : decode cX12_reckoned 57 = .ok (.getfield 13, 3) := by decide +kernel
theorem dX12_reckoned_60 : decode cX12_reckoned 60 = .ok (.bipush 101, 2) := by decide +kernel
theorem dX12_reckoned_62 : decode cX12_reckoned 62 = .ok (.iload_n 2, 1) := by decide +kernel
theorem dX12_reckoned_63 : decode cX12_reckoned 63 = .ok (.imul, 1) := by decide +kernel
theorem dX12_reckoned_64 : decode cX12_reckoned 64 = .ok (.iload 5, 2) := by decide +kernel
theorem dX12_reckoned_66 : decode cX12_reckoned 66 = .ok (.iadd, 1) := by decide +kernel
theorem dX12_reckoned_67 : decode cX12_reckoned 67 = .ok (.iaload, 1) := by decide +kernel
theorem dX12_reckoned_68 : decode cX12_reckoned 68 = .ok (.ifCond .lt 16, 3) := by decide +kernel
theorem dX12_reckoned_71 : decode cX12_reckoned 71 = .ok (.aload_n 0, 1) := by decide +kernel
theorem dX12_reckoned_72 : decode cX12_reckoned 72 = .ok (.getfield 13, 3) := by decide +kernel
theorem dX12_reckoned_75 : decode cX12_reckoned 75 = .ok (.bipush 101, 2) := by decide +kernel
theorem dX12_reckoned_77 : decode cX12_reckoned 77 = .ok (.iload_n 2, 1) := by decide +kernel
theorem dX12_reckoned_78 : decode cX12_reckoned 78 = .ok (.imul, 1) := by decide +kernel
theorem dX12_reckoned_79 : decode cX12_reckoned 79 = .ok (.iload 5, 2) := by decide +kernel
theorem dX12_reckoned_81 : decode cX12_reckoned 81 = .ok (.iadd, 1) := by decide +kernel
theorem dX12_reckoned_82 : decode cX12_reckoned 82 = .ok (.iaload, 1) := by decide +kernel
theorem dX12_reckoned_83 : decode cX12_reckoned 83 = .ok (.istore_n 3, 1) := by decide +kernel
theorem dX12_reckoned_84 : decode cX12_reckoned 84 = .ok (.iinc 5 1, 3) := by decide +kernel
theorem dX12_reckoned_87 : decode cX12_reckoned 87 = .ok (.goto (-37), 3) := by decide +kernel
theorem dX12_reckoned_90 : decode cX12_reckoned 90 = .ok (.bipush 100, 2) := by decide +kernel
theorem dX12_reckoned_92 : decode cX12_reckoned 92 = .ok (.istore 5, 2) := by decide +kernel
theorem dX12_reckoned_94 : decode cX12_reckoned 94 = .ok (.iload 5, 2) := by decide +kernel
theorem dX12_reckoned_96 : decode cX12_reckoned 96 = .ok (.iload_n 1, 1) := by decide +kernel
theorem dX12_reckoned_97 : decode cX12_reckoned 97 = .ok (.if_icmp .le 38, 3) := by decide +kernel
theorem dX12_reckoned_100 : decode cX12_reckoned 100 = .ok (.aload_n 0, 1) := by decide +kernel
theorem dX12_reckoned_101 : decode cX12_reckoned 101 = .ok (.getfield 13, 3) := by decide +kernel
theorem dX12_reckoned_104 : decode cX12_reckoned 104 = .ok (.bipush 101, 2) := by decide +kernel
theorem dX12_reckoned_106 : decode cX12_reckoned 106 = .ok (.iload_n 2, 1) := by decide +kernel
theorem dX12_reckoned_107 : decode cX12_reckoned 107 = .ok (.imul, 1) := by decide +kernel
theorem dX12_reckoned_108 : decode cX12_reckoned 108 = .ok (.iload 5, 2) := by decide +kernel
theorem dX12_reckoned_110 : decode cX12_reckoned 110 = .ok (.iadd, 1) := by decide +kernel
theorem dX12_reckoned_111 : decode cX12_reckoned 111 = .ok (.iaload, 1) := by decide +kernel
theorem dX12_reckoned_112 : decode cX12_reckoned 112 = .ok (.ifCond .lt 17, 3) := by decide +kernel
theorem dX12_reckoned_115 : decode cX12_reckoned 115 = .ok (.aload_n 0, 1) := by decide +kernel
theorem dX12_reckoned_116 : decode cX12_reckoned 116 = .ok (.getfield 13, 3) := by decide +kernel
theorem dX12_reckoned_119 : decode cX12_reckoned 119 = .ok (.bipush 101, 2) := by decide +kernel
theorem dX12_reckoned_121 : decode cX12_reckoned 121 = .ok (.iload_n 2, 1) := by decide +kernel
theorem dX12_reckoned_122 : decode cX12_reckoned 122 = .ok (.imul, 1) := by decide +kernel
theorem dX12_reckoned_123 : decode cX12_reckoned 123 = .ok (.iload 5, 2) := by decide +kernel
theorem dX12_reckoned_125 : decode cX12_reckoned 125 = .ok (.iadd, 1) := by decide +kernel
theorem dX12_reckoned_126 : decode cX12_reckoned 126 = .ok (.iaload, 1) := by decide +kernel
theorem dX12_reckoned_127 : decode cX12_reckoned 127 = .ok (.istore 4, 2) := by decide +kernel
theorem dX12_reckoned_129 : decode cX12_reckoned 129 = .ok (.iinc 5 (-1), 3) := by decide +kernel
theorem dX12_reckoned_132 : decode cX12_reckoned 132 = .ok (.goto (-38), 3) := by decide +kernel
theorem dX12_reckoned_135 : decode cX12_reckoned 135 = .ok (.iload_n 3, 1) := by decide +kernel
theorem dX12_reckoned_136 : decode cX12_reckoned 136 = .ok (.ifCond .ge 19, 3) := by decide +kernel
theorem dX12_reckoned_139 : decode cX12_reckoned 139 = .ok (.iload 4, 2) := by decide +kernel
theorem dX12_reckoned_141 : decode cX12_reckoned 141 = .ok (.ifCond .ge 14, 3) := by decide +kernel
theorem dX12_reckoned_144 : decode cX12_reckoned 144 = .ok (.iload_n 2, 1) := by decide +kernel
theorem dX12_reckoned_145 : decode cX12_reckoned 145 = .ok (.ifCond .ne 8, 3) := by decide +kernel
theorem dX12_reckoned_148 : decode cX12_reckoned 148 = .ok (.bipush 20, 2) := by decide +kernel
theorem dX12_reckoned_150 : decode cX12_reckoned 150 = .ok (.goto 4, 3) := by decide +kernel
theorem dX12_reckoned_153 : decode cX12_reckoned 153 = .ok (.iconst 4, 1) := by decide +kernel
theorem dX12_reckoned_154 : decode cX12_reckoned 154 = .ok (.ireturn, 1) := by decide +kernel
theorem dX12_reckoned_155 : decode cX12_reckoned 155 = .ok (.iload_n 3, 1) := by decide +kernel
theorem dX12_reckoned_156 : decode cX12_reckoned 156 = .ok (.ifCond .ge 8, 3) := by decide +kernel
theorem dX12_reckoned_159 : decode cX12_reckoned 159 = .ok (.iload 4, 2) := by decide +kernel
theorem dX12_reckoned_161 : decode cX12_reckoned 161 = .ok (.goto 18, 3) := by decide +kernel
theorem dX12_reckoned_164 : decode cX12_reckoned 164 = .ok (.iload 4, 2) := by decide +kernel
theorem dX12_reckoned_166 : decode cX12_reckoned 166 = .ok (.ifCond .ge 7, 3) := by decide +kernel
theorem dX12_reckoned_169 : decode cX12_reckoned 169 = .ok (.iload_n 3, 1) := by decide +kernel
theorem dX12_reckoned_170 : decode cX12_reckoned 170 = .ok (.goto 9, 3) := by decide +kernel
theorem dX12_reckoned_173 : decode cX12_reckoned 173 = .ok (.iload_n 3, 1) := by decide +kernel
theorem dX12_reckoned_174 : decode cX12_reckoned 174 = .ok (.iload 4, 2) := by decide +kernel
theorem dX12_reckoned_176 : decode cX12_reckoned 176 = .ok (.iadd, 1) := by decide +kernel
theorem dX12_reckoned_177 : decode cX12_reckoned 177 = .ok (.iconst 2, 1) := by decide +kernel
theorem dX12_reckoned_178 : decode cX12_reckoned 178 = .ok (.idiv, 1) := by decide +kernel
theorem dX12_reckoned_179 : decode cX12_reckoned 179 = .ok (.ireturn, 1) := by decide +kernel
theorem dX12_day_0 : decode cX12_day 0 = .ok (.iload_n 1, 1) := by decide +kernel
theorem dX12_day_1 : decode cX12_day 1 = .ok (.bipush 101, 2) := by decide +kernel
theorem dX12_day_3 : decode cX12_day 3 = .ok (.invokestatic 95, 3) := by decide +kernel
theorem dX12_day_6 : decode cX12_day 6 = .ok (.ifCond .ne 7, 3) := by decide +kernel
theorem dX12_day_9 : decode cX12_day 9 = .ok (.iconst (-1), 1) := by decide +kernel
theorem dX12_day_10 : decode cX12_day 10 = .ok (.goto 50, 3) := by decide +kernel
theorem dX12_day_13 : decode cX12_day 13 = .ok (.iload_n 2, 1) := by decide +kernel
theorem dX12_day_14 : decode cX12_day 14 = .ok (.iconst 3, 1) := by decide +kernel
theorem dX12_day_15 : decode cX12_day 15 = .ok (.invokestatic 95, 3) := by decide +kernel
theorem dX12_day_18 : decode cX12_day 18 = .ok (.ifCond .ne 8, 3) := by decide +kernel
theorem dX12_day_21 : decode cX12_day 21 = .ok (.bipush (-2), 2) := by decide +kernel
theorem dX12_day_23 : decode cX12_day 23 = .ok (.goto 37, 3) := by decide +kernel
theorem dX12_day_26 : decode cX12_day 26 = .ok (.iload_n 3, 1) := by decide +kernel
theorem dX12_day_27 : decode cX12_day 27 = .ok (.iload_n 2, 1) := by decide +kernel
theorem dX12_day_28 : decode cX12_day 28 = .ok (.iconst 2, 1) := by decide +kernel
theorem dX12_day_29 : decode cX12_day 29 = .ok (.if_icmp .ne 7, 3) := by decide +kernel
theorem dX12_day_32 : decode cX12_day 32 = .ok (.iconst 0, 1) := by decide +kernel
theorem dX12_day_33 : decode cX12_day 33 = .ok (.goto 4, 3) := by decide +kernel
theorem dX12_day_36 : decode cX12_day 36 = .ok (.iconst (-1), 1) := by decide +kernel
theorem dX12_day_37 : decode cX12_day 37 = .ok (.iload_n 2, 1) := by decide +kernel
theorem dX12_day_38 : decode cX12_day 38 = .ok (.ifCond .ne 8, 3) := by decide +kernel
theorem dX12_day_41 : decode cX12_day 41 = .ok (.bipush 60, 2) := by decide +kernel
theorem dX12_day_43 : decode cX12_day 43 = .ok (.goto 14, 3) := by decide +kernel
theorem dX12_day_46 : decode cX12_day 46 = .ok (.iload_n 2, 1) := by decide +kernel
theorem dX12_day_47 : decode cX12_day 47 = .ok (.iconst 1, 1) := by decide +kernel
theorem dX12_day_48 : decode cX12_day 48 = .ok (.if_icmp .ne 8, 3) := by decide +kernel
theorem dX12_day_51 : decode cX12_day 51 = .ok (.bipush 9, 2) := by decide +kernel
theorem dX12_day_53 : decode cX12_day 53 = .ok (.goto 4, 3) := by decide +kernel
theorem dX12_day_56 : decode cX12_day 56 = .ok (.iconst 1, 1) := by decide +kernel
theorem dX12_day_57 : decode cX12_day 57 = .ok (.invokestatic 99, 3) := by decide +kernel
theorem dX12_day_60 : decode cX12_day 60 = .ok (.istore 4, 2) := by decide +kernel
theorem dX12_day_62 : decode cX12_day 62 = .ok (.iload 4, 2) := by decide +kernel
theorem dX12_day_64 : decode cX12_day 64 = .ok (.ifCond .eq 10, 3) := by decide +kernel
theorem dX12_day_67 : decode cX12_day 67 = .ok (.aload_n 0, 1) := by decide +kernel
theorem dX12_day_68 : decode cX12_day 68 = .ok (.iload 4, 2) := by decide +kernel
theorem dX12_day_70 : decode cX12_day 70 = .ok (.invokevirtual 103, 3) := by decide +kernel
theorem dX12_day_73 : decode cX12_day 73 = .ok (.ireturn, 1) := by decide +kernel
theorem dX12_day_74 : decode cX12_day 74 = .ok (.aload_n 0, 1) := by decide +kernel
theorem dX12_day_75 : decode cX12_day 75 = .ok (.iload_n 1, 1) := by decide +kernel
theorem dX12_day_76 : decode cX12_day 76 = .ok (.iload_n 2, 1) := by decide +kernel
theorem dX12_day_77 : decode cX12_day 77 = .ok (.invokevirtual 107, 3) := by decide +kernel
theorem dX12_day_80 : decode cX12_day 80 = .ok (.istore 5, 2) := by decide +kernel
theorem dX12_day_82 : decode cX12_day 82 = .ok (.aload_n 0, 1) := by decide +kernel
theorem dX12_day_83 : decode cX12_day 83 = .ok (.getfield 13, 3) := by decide +kernel
theorem dX12_day_86 : decode cX12_day 86 = .ok (.bipush 101, 2) := by decide +kernel
theorem dX12_day_88 : decode cX12_day 88 = .ok (.iload_n 2, 1) := by decide +kernel
theorem dX12_day_89 : decode cX12_day 89 = .ok (.imul, 1) := by decide +kernel
theorem dX12_day_90 : decode cX12_day 90 = .ok (.iload_n 1, 1) := by decide +kernel
theorem dX12_day_91 : decode cX12_day 91 = .ok (.iadd, 1) := by decide +kernel
theorem dX12_day_92 : decode cX12_day 92 = .ok (.iload_n 3, 1) := by decide +kernel
theorem dX12_day_93 : decode cX12_day 93 = .ok (.iastore, 1) := by decide +kernel
theorem dX12_day_94 : decode cX12_day 94 = .ok (.iload 5, 2) := by decide +kernel
theorem dX12_day_96 : decode cX12_day 96 = .ok (.ireturn, 1) := by decide +kernel
theorem dX12_dayOf_0 : decode cX12_dayOf 0 = .ok (.iload_n 1, 1) := by decide +kernel
theorem dX12_dayOf_1 : decode cX12_dayOf 1 = .ok (.bipush 101, 2) := by decide +kernel
theorem dX12_dayOf_3 : decode cX12_dayOf 3 = .ok (.invokestatic 95, 3) := by decide +kernel
theorem dX12_dayOf_6 : decode cX12_dayOf 6 = .ok (.ifCond .ne 11, 3) := by decide +kernel
theorem dX12_dayOf_9 : decode cX12_dayOf 9 = .ok (.aload_n 0, 1) := by decide +kernel
theorem dX12_dayOf_10 : decode cX12_dayOf 10 = .ok (.iconst (-1), 1) := by decide +kernel
theorem dX12_dayOf_11 : decode cX12_dayOf 11 = .ok (.invokevirtual 103, 3) := by decide +kernel
theorem dX12_dayOf_14 : decode cX12_dayOf 14 = .ok (.goto 26, 3) := by decide +kernel
theorem dX12_dayOf_17 : decode cX12_dayOf 17 = .ok (.iload_n 2, 1) := by decide +kernel
theorem dX12_dayOf_18 : decode cX12_dayOf 18 = .ok (.iconst 3, 1) := by decide +kernel
theorem dX12_dayOf_19 : decode cX12_dayOf 19 = .ok (.invokestatic 95, 3) := by decide +kernel
theorem dX12_dayOf_22 : decode cX12_dayOf 22 = .ok (.ifCond .ne 12, 3) := by decide +kernel
theorem dX12_dayOf_25 : decode cX12_dayOf 25 = .ok (.aload_n 0, 1) := by decide +kernel
theorem dX12_dayOf_26 : decode cX12_dayOf 26 = .ok (.bipush (-2), 2) := by decide +kernel
theorem dX12_dayOf_28 : decode cX12_dayOf 28 = .ok (.invokevirtual 103, 3) := by decide +kernel
theorem dX12_dayOf_31 : decode cX12_dayOf 31 = .ok (.goto 9, 3) := by decide +kernel
theorem dX12_dayOf_34 : decode cX12_dayOf 34 = .ok (.aload_n 0, 1) := by decide +kernel
theorem dX12_dayOf_35 : decode cX12_dayOf 35 = .ok (.iload_n 1, 1) := by decide +kernel
theorem dX12_dayOf_36 : decode cX12_dayOf 36 = .ok (.iload_n 2, 1) := by decide +kernel
theorem dX12_dayOf_37 : decode cX12_dayOf 37 = .ok (.invokevirtual 107, 3) := by decide +kernel
theorem dX12_dayOf_40 : decode cX12_dayOf 40 = .ok (.ireturn, 1) := by decide +kernel
theorem dX12_isKind_0 : decode cX12_isKind 0 = .ok (.iload_n 1, 1) := by decide +kernel
theorem dX12_isKind_1 : decode cX12_isKind 1 = .ok (.bipush 9, 2) := by decide +kernel
theorem dX12_isKind_3 : decode cX12_isKind 3 = .ok (.invokestatic 95, 3) := by decide +kernel
theorem dX12_isKind_6 : decode cX12_isKind 6 = .ok (.ireturn, 1) := by decide +kernel
theorem dX12_kind_0 : decode cX12_kind 0 = .ok (.aload_n 0, 1) := by decide +kernel
theorem dX12_kind_1 : decode cX12_kind 1 = .ok (.iload_n 1, 1) := by decide +kernel
theorem dX12_kind_2 : decode cX12_kind 2 = .ok (.invokevirtual 111, 3) := by decide +kernel
theorem dX12_kind_5 : decode cX12_kind 5 = .ok (.ifCond .ne 9, 3) := by decide +kernel
theorem dX12_kind_8 : decode cX12_kind 8 = .ok (.aload_n 0, 1) := by decide +kernel
theorem dX12_kind_9 : decode cX12_kind 9 = .ok (.iconst (-1), 1) := by decide +kernel
theorem dX12_kind_10 : decode cX12_kind 10 = .ok (.invokevirtual 103, 3) := by decide +kernel
theorem dX12_kind_13 : decode cX12_kind 13 = .ok (.ireturn, 1) := by decide +kernel
theorem dX12_kind_14 : decode cX12_kind 14 = .ok (.iload_n 2, 1) := by decide +kernel
theorem dX12_kind_15 : decode cX12_kind 15 = .ok (.ifCond .lt 14, 3) := by decide +kernel
theorem dX12_kind_18 : decode cX12_kind 18 = .ok (.iload_n 3, 1) := by decide +kernel
theorem dX12_kind_19 : decode cX12_kind 19 = .ok (.iconst 1, 1) := by decide +kernel
theorem dX12_kind_20 : decode cX12_kind 20 = .ok (.if_icmp .lt 9, 3) := by decide +kernel
theorem dX12_kind_23 : decode cX12_kind 23 = .ok (.iload 4, 2) := by decide +kernel
theorem dX12_kind_25 : decode cX12_kind 25 = .ok (.iconst 1, 1) := by decide +kernel
theorem dX12_kind_26 : decode cX12_kind 26 = .ok (.if_icmp .ge 10, 3) := by decide +kernel
theorem dX12_kind_29 : decode cX12_kind 29 = .ok (.aload_n 0, 1) := by decide +kernel
theorem dX12_kind_30 : decode cX12_kind 30 = .ok (.bipush (-4), 2) := by decide +kernel
theorem dX12_kind_32 : decode cX12_kind 32 = .ok (.invokevirtual 103, 3) := by decide +kernel
theorem dX12_kind_35 : decode cX12_kind 35 = .ok (.ireturn, 1) := by decide +kernel
theorem dX12_kind_36 : decode cX12_kind 36 = .ok (.iload_n 2, 1) := by decide +kernel
theorem dX12_kind_37 : decode cX12_kind 37 = .ok (.bipush 20, 2) := by decide +kernel
theorem dX12_kind_39 : decode cX12_kind 39 = .ok (.if_icmp .gt 16, 3) := by decide +kernel
theorem dX12_kind_42 : decode cX12_kind 42 = .ok (.iload_n 3, 1) := by decide +kernel
theorem dX12_kind_43 : decode cX12_kind 43 = .ok (.bipush 40, 2) := by decide +kernel
theorem dX12_kind_45 : decode cX12_kind 45 = .ok (.if_icmp .gt 10, 3) := by decide +kernel
theorem dX12_kind_48 : decode cX12_kind 48 = .ok (.iload 4, 2) := by decide +kernel
theorem dX12_kind_50 : decode cX12_kind 50 = .ok (.bipush 30, 2) := by decide +kernel
theorem dX12_kind_52 : decode cX12_kind 52 = .ok (.if_icmp .le 10, 3) := by decide +kernel
theorem dX12_kind_55 : decode cX12_kind 55 = .ok (.aload_n 0, 1) := by decide +kernel
theorem dX12_kind_56 : decode cX12_kind 56 = .ok (.bipush (-6), 2) := by decide +kernel
theorem dX12_kind_58 : decode cX12_kind 58 = .ok (.invokevirtual 103, 3) := by decide +kernel
theorem dX12_kind_61 : decode cX12_kind 61 = .ok (.ireturn, 1) := by decide +kernel
theorem dX12_kind_62 : decode cX12_kind 62 = .ok (.aload_n 0, 1) := by decide +kernel
theorem dX12_kind_63 : decode cX12_kind 63 = .ok (.getfield 16, 3) := by decide +kernel
theorem dX12_kind_66 : decode cX12_kind 66 = .ok (.iload_n 1, 1) := by decide +kernel
theorem dX12_kind_67 : decode cX12_kind 67 = .ok (.iload_n 2, 1) := by decide +kernel
theorem dX12_kind_68 : decode cX12_kind 68 = .ok (.iastore, 1) := by decide +kernel
theorem dX12_kind_69 : decode cX12_kind 69 = .ok (.aload_n 0, 1) := by decide +kernel
theorem dX12_kind_70 : decode cX12_kind 70 = .ok (.getfield 19, 3) := by decide +kernel
theorem dX12_kind_73 : decode cX12_kind 73 = .ok (.iload_n 1, 1) := by decide +kernel
theorem dX12_kind_74 : decode cX12_kind 74 = .ok (.iload_n 3, 1) := by decide +kernel
theorem dX12_kind_75 : decode cX12_kind 75 = .ok (.iastore, 1) := by decide +kernel
theorem dX12_kind_76 : decode cX12_kind 76 = .ok (.aload_n 0, 1) := by decide +kernel
theorem dX12_kind_77 : decode cX12_kind 77 = .ok (.getfield 22, 3) := by decide +kernel
theorem dX12_kind_80 : decode cX12_kind 80 = .ok (.iload_n 1, 1) := by decide +kernel
theorem dX12_kind_81 : decode cX12_kind 81 = .ok (.iload 4, 2) := by decide +kernel
theorem dX12_kind_83 : decode cX12_kind 83 = .ok (.iastore, 1) := by decide +kernel
theorem dX12_kind_84 : decode cX12_kind 84 = .ok (.iconst 1, 1) := by decide +kernel
theorem dX12_kind_85 : decode cX12_kind 85 = .ok (.ireturn, 1) := by decide +kernel
theorem dX12_rags_0 : decode cX12_rags 0 = .ok (.aload_n 0, 1) := by decide +kernel
theorem dX12_rags_1 : decode cX12_rags 1 = .ok (.iload_n 1, 1) := by decide +kernel
theorem dX12_rags_2 : decode cX12_rags 2 = .ok (.invokevirtual 111, 3) := by decide +kernel
theorem dX12_rags_5 : decode cX12_rags 5 = .ok (.ifCond .eq 21, 3) := by decide +kernel
theorem dX12_rags_8 : decode cX12_rags 8 = .ok (.iload_n 2, 1) := by decide +kernel
theorem dX12_rags_9 : decode cX12_rags 9 = .ok (.iconst 1, 1) := by decide +kernel
theorem dX12_rags_10 : decode cX12_rags 10 = .ok (.sipush 20000, 3) := by decide +kernel
theorem dX12_rags_13 : decode cX12_rags 13 = .ok (.aload_n 0, 1) := by decide +kernel
theorem dX12_rags_14 : decode cX12_rags 14 = .ok (.getfield 25, 3) := by decide +kernel
theorem dX12_rags_17 : decode cX12_rags 17 = .ok (.iload_n 1, 1) := by decide +kernel
theorem dX12_rags_18 : decode cX12_rags 18 = .ok (.iaload, 1) := by decide +kernel
theorem dX12_rags_19 : decode cX12_rags 19 = .ok (.isub, 1) := by decide +kernel
theorem dX12_rags_20 : decode cX12_rags 20 = .ok (.invokestatic 99, 3) := by decide +kernel
theorem dX12_rags_23 : decode cX12_rags 23 = .ok (.goto 4, 3) := by decide +kernel
theorem dX12_rags_26 : decode cX12_rags 26 = .ok (.iconst (-1), 1) := by decide +kernel
theorem dX12_rags_27 : decode cX12_rags 27 = .ok (.istore_n 3, 1) := by decide +kernel
theorem dX12_rags_28 : decode cX12_rags 28 = .ok (.iload_n 3, 1) := by decide +kernel
theorem dX12_rags_29 : decode cX12_rags 29 = .ok (.ifCond .eq 9, 3) := by decide +kernel
theorem dX12_rags_32 : decode cX12_rags 32 = .ok (.aload_n 0, 1) := by decide +kernel
theorem dX12_rags_33 : decode cX12_rags 33 = .ok (.iload_n 3, 1) := by decide +kernel
theorem dX12_rags_34 : decode cX12_rags 34 = .ok (.invokevirtual 103, 3) := by decide +kernel
theorem dX12_rags_37 : decode cX12_rags 37 = .ok (.ireturn, 1) := by decide +kernel
theorem dX12_rags_38 : decode cX12_rags 38 = .ok (.aload_n 0, 1) := by decide +kernel
theorem dX12_rags_39 : decode cX12_rags 39 = .ok (.getfield 25, 3) := by decide +kernel
theorem dX12_rags_42 : decode cX12_rags 42 = .ok (.iload_n 1, 1) := by decide +kernel
theorem dX12_rags_43 : decode cX12_rags 43 = .ok (.dup2, 1) := by decide +kernel
theorem dX12_rags_44 : decode cX12_rags 44 = .ok (.iaload, 1) := by decide +kernel
theorem dX12_rags_45 : decode cX12_rags 45 = .ok (.iload_n 2, 1) := by decide +kernel
theorem dX12_rags_46 : decode cX12_rags 46 = .ok (.iadd, 1) := by decide +kernel
theorem dX12_rags_47 : decode cX12_rags 47 = .ok (.iastore, 1) := by decide +kernel
theorem dX12_rags_48 : decode cX12_rags 48 = .ok (.aload_n 0, 1) := by decide +kernel
theorem dX12_rags_49 : decode cX12_rags 49 = .ok (.getfield 25, 3) := by decide +kernel
theorem dX12_rags_52 : decode cX12_rags 52 = .ok (.iload_n 1, 1) := by decide +kernel
theorem dX12_rags_53 : decode cX12_rags 53 = .ok (.iaload, 1) := by decide +kernel
theorem dX12_rags_54 : decode cX12_rags 54 = .ok (.ireturn, 1) := by decide +kernel
theorem dX12_heap_0 : decode cX12_heap 0 = .ok (.aload_n 0, 1) := by decide +kernel
theorem dX12_heap_1 : decode cX12_heap 1 = .ok (.iload_n 1, 1) := by decide +kernel
theorem dX12_heap_2 : decode cX12_heap 2 = .ok (.invokevirtual 111, 3) := by decide +kernel
theorem dX12_heap_5 : decode cX12_heap 5 = .ok (.ifCond .ne 7, 3) := by decide +kernel
theorem dX12_heap_8 : decode cX12_heap 8 = .ok (.iconst (-1), 1) := by decide +kernel
theorem dX12_heap_9 : decode cX12_heap 9 = .ok (.goto 45, 3) := by decide +kernel
theorem dX12_heap_12 : decode cX12_heap 12 = .ok (.iload_n 2, 1) := by decide +kernel
theorem dX12_heap_13 : decode cX12_heap 13 = .ok (.iconst 1, 1) := by decide +kernel
theorem dX12_heap_14 : decode cX12_heap 14 = .ok (.if_icmp .ge 8, 3) := by decide +kernel
theorem dX12_heap_17 : decode cX12_heap 17 = .ok (.bipush (-4), 2) := by decide +kernel
theorem dX12_heap_19 : decode cX12_heap 19 = .ok (.goto 35, 3) := by decide +kernel
theorem dX12_heap_22 : decode cX12_heap 22 = .ok (.iload_n 2, 1) := by decide +kernel
theorem dX12_heap_23 : decode cX12_heap 23 = .ok (.sipush 400, 3) := by decide +kernel
theorem dX12_heap_26 : decode cX12_heap 26 = .ok (.if_icmp .gt 22, 3) := by decide +kernel
theorem dX12_heap_29 : decode cX12_heap 29 = .ok (.iload_n 2, 1) := by decide +kernel
theorem dX12_heap_30 : decode cX12_heap 30 = .ok (.aload_n 0, 1) := by decide +kernel
theorem dX12_heap_31 : decode cX12_heap 31 = .ok (.getfield 25, 3) := by decide +kernel
theorem dX12_heap_34 : decode cX12_heap 34 = .ok (.iload_n 1, 1) := by decide +kernel
theorem dX12_heap_35 : decode cX12_heap 35 = .ok (.iaload, 1) := by decide +kernel
theorem dX12_heap_36 : decode cX12_heap 36 = .ok (.if_icmp .gt 12, 3) := by decide +kernel
theorem dX12_heap_39 : decode cX12_heap 39 = .ok (.aload_n 0, 1) := by decide +kernel
theorem dX12_heap_40 : decode cX12_heap 40 = .ok (.getfield 115, 3) := by decide +kernel
theorem dX12_heap_43 : decode cX12_heap 43 = .ok (.bipush 40, 2) := by decide +kernel
theorem dX12_heap_45 : decode cX12_heap 45 = .ok (.if_icmp .ne 8, 3) := by decide +kernel
theorem dX12_heap_48 : decode cX12_heap 48 = .ok (.bipush (-6), 2) := by decide +kernel
theorem dX12_heap_50 : decode cX12_heap 50 = .ok (.goto 4, 3) := by decide +kernel
theorem dX12_heap_53 : decode cX12_heap 53 = .ok (.iconst 0, 1) := by decide +kernel
theorem dX12_heap_54 : decode cX12_heap 54 = .ok (.istore_n 3, 1) := by decide +kernel
theorem dX12_heap_55 : decode cX12_heap 55 = .ok (.iload_n 3, 1) := by decide +kernel
theorem dX12_heap_56 : decode cX12_heap 56 = .ok (.ifCond .eq 9, 3) := by decide +kernel
theorem dX12_heap_59 : decode cX12_heap 59 = .ok (.aload_n 0, 1) := by decide +kernel
theorem dX12_heap_60 : decode cX12_heap 60 = .ok (.iload_n 3, 1) := by decide +kernel
theorem dX12_heap_61 : decode cX12_heap 61 = .ok (.invokevirtual 103, 3) := by decide +kernel
theorem dX12_heap_64 : decode cX12_heap 64 = .ok (.ireturn, 1) := by decide +kernel
theorem dX12_heap_65 : decode cX12_heap 65 = .ok (.aload_n 0, 1) := by decide +kernel
theorem dX12_heap_66 : decode cX12_heap 66 = .ok (.getfield 25, 3) := by decide +kernel
theorem dX12_heap_69 : decode cX12_heap 69 = .ok (.iload_n 1, 1) := by decide +kernel
theorem dX12_heap_70 : decode cX12_heap 70 = .ok (.dup2, 1) := by decide +kernel
theorem dX12_heap_71 : decode cX12_heap 71 = .ok (.iaload, 1) := by decide +kernel
theorem dX12_heap_72 : decode cX12_heap 72 = .ok (.iload_n 2, 1) := by decide +kernel
theorem dX12_heap_73 : decode cX12_heap 73 = .ok (.isub, 1) := by decide +kernel
theorem dX12_heap_74 : decode cX12_heap 74 = .ok (.iastore, 1) := by decide +kernel
theorem dX12_heap_75 : decode cX12_heap 75 = .ok (.aload_n 0, 1) := by decide +kernel
theorem dX12_heap_76 : decode cX12_heap 76 = .ok (.getfield 34, 3) := by decide +kernel
theorem dX12_heap_79 : decode cX12_heap 79 = .ok (.aload_n 0, 1) := by decide +kernel
theorem dX12_heap_80 : decode cX12_heap 80 = .ok (.getfield 115, 3) := by decide +kernel
theorem dX12_heap_83 : decode cX12_heap 83 = .ok (.iload_n 1, 1) := by decide +kernel
theorem dX12_heap_84 : decode cX12_heap 84 = .ok (.iastore, 1) := by decide +kernel
theorem dX12_heap_85 : decode cX12_heap 85 = .ok (.aload_n 0, 1) := by decide +kernel
theorem dX12_heap_86 : decode cX12_heap 86 = .ok (.getfield 37, 3) := by decide +kernel
theorem dX12_heap_89 : decode cX12_heap 89 = .ok (.aload_n 0, 1) := by decide +kernel
theorem dX12_heap_90 : decode cX12_heap 90 = .ok (.getfield 115, 3) := by decide +kernel
theorem dX12_heap_93 : decode cX12_heap 93 = .ok (.aload_n 0, 1) := by decide +kernel
theorem dX12_heap_94 : decode cX12_heap 94 = .ok (.getfield 86, 3) := by decide +kernel
theorem dX12_heap_97 : decode cX12_heap 97 = .ok (.sipush 751, 3) := by decide +kernel
theorem dX12_heap_100 : decode cX12_heap 100 = .ok (.iaload, 1) := by decide +kernel
theorem dX12_heap_101 : decode cX12_heap 101 = .ok (.iastore, 1) := by decide +kernel
theorem dX12_heap_102 : decode cX12_heap 102 = .ok (.aload_n 0, 1) := by decide +kernel
theorem dX12_heap_103 : decode cX12_heap 103 = .ok (.getfield 86, 3) := by decide +kernel
theorem dX12_heap_106 : decode cX12_heap 106 = .ok (.iconst 0, 1) := by decide +kernel
theorem dX12_heap_107 : decode cX12_heap 107 = .ok (.aload_n 0, 1) := by decide +kernel
theorem dX12_heap_108 : decode cX12_heap 108 = .ok (.getfield 115, 3) := by decide +kernel
theorem dX12_heap_111 : decode cX12_heap 111 = .ok (.iadd, 1) := by decide +kernel
theorem dX12_heap_112 : decode cX12_heap 112 = .ok (.iload_n 2, 1) := by decide +kernel
theorem dX12_heap_113 : decode cX12_heap 113 = .ok (.iastore, 1) := by decide +kernel
theorem dX12_heap_114 : decode cX12_heap 114 = .ok (.aload_n 0, 1) := by decide +kernel
theorem dX12_heap_115 : decode cX12_heap 115 = .ok (.dup, 1) := by decide +kernel
theorem dX12_heap_116 : decode cX12_heap 116 = .ok (.getfield 115, 3) := by decide +kernel
theorem dX12_heap_119 : decode cX12_heap 119 = .ok (.iconst 1, 1) := by decide +kernel
theorem dX12_heap_120 : decode cX12_heap 120 = .ok (.iadd, 1) := by decide +kernel
theorem dX12_heap_121 : decode cX12_heap 121 = .ok (.putfield 115, 3) := by decide +kernel
theorem dX12_heap_124 : decode cX12_heap 124 = .ok (.aload_n 0, 1) := by decide +kernel
theorem dX12_heap_125 : decode cX12_heap 125 = .ok (.getfield 115, 3) := by decide +kernel
theorem dX12_heap_128 : decode cX12_heap 128 = .ok (.iconst 1, 1) := by decide +kernel
theorem dX12_heap_129 : decode cX12_heap 129 = .ok (.isub, 1) := by decide +kernel
theorem dX12_heap_130 : decode cX12_heap 130 = .ok (.ireturn, 1) := by decide +kernel
theorem dX12_age_0 : decode cX12_age 0 = .ok (.aload_n 0, 1) := by decide +kernel
theorem dX12_age_1 : decode cX12_age 1 = .ok (.getfield 86, 3) := by decide +kernel
theorem dX12_age_4 : decode cX12_age 4 = .ok (.sipush 751, 3) := by decide +kernel
theorem dX12_age_7 : decode cX12_age 7 = .ok (.iaload, 1) := by decide +kernel
theorem dX12_age_8 : decode cX12_age 8 = .ok (.aload_n 0, 1) := by decide +kernel
theorem dX12_age_9 : decode cX12_age 9 = .ok (.getfield 37, 3) := by decide +kernel
theorem dX12_age_12 : decode cX12_age 12 = .ok (.iload_n 1, 1) := by decide +kernel
theorem dX12_age_13 : decode cX12_age 13 = .ok (.iaload, 1) := by decide +kernel
theorem dX12_age_14 : decode cX12_age 14 = .ok (.isub, 1) := by decide +kernel
theorem dX12_age_15 : decode cX12_age 15 = .ok (.bipush 24, 2) := by decide +kernel
theorem dX12_age_17 : decode cX12_age 17 = .ok (.idiv, 1) := by decide +kernel
theorem dX12_age_18 : decode cX12_age 18 = .ok (.ireturn, 1) := by decide +kernel
theorem dX12_isRipe_0 : decode cX12_isRipe 0 = .ok (.aload_n 0, 1) := by decide +kernel
theorem dX12_isRipe_1 : decode cX12_isRipe 1 = .ok (.getfield 86, 3) := by decide +kernel
theorem dX12_isRipe_4 : decode cX12_isRipe 4 = .ok (.iconst 0, 1) := by decide +kernel
theorem dX12_isRipe_5 : decode cX12_isRipe 5 = .ok (.iload_n 1, 1) := by decide +kernel
theorem dX12_isRipe_6 : decode cX12_isRipe 6 = .ok (.iadd, 1) := by decide +kernel
theorem dX12_isRipe_7 : decode cX12_isRipe 7 = .ok (.iaload, 1) := by decide +kernel
theorem dX12_isRipe_8 : decode cX12_isRipe 8 = .ok (.ifCond .le 26, 3) := by decide +kernel
theorem dX12_isRipe_11 : decode cX12_isRipe 11 = .ok (.aload_n 0, 1) := by decide +kernel
theorem dX12_isRipe_12 : decode cX12_isRipe 12 = .ok (.iload_n 1, 1) := by decide +kernel
theorem dX12_isRipe_13 : decode cX12_isRipe 13 = .ok (.invokevirtual 118, 3) := by decide +kernel
theorem dX12_isRipe_16 : decode cX12_isRipe 16 = .ok (.aload_n 0, 1) := by decide +kernel
theorem dX12_isRipe_17 : decode cX12_isRipe 17 = .ok (.getfield 16, 3) := by decide +kernel
theorem dX12_isRipe_20 : decode cX12_isRipe 20 = .ok (.aload_n 0, 1) := by decide +kernel
theorem dX12_isRipe_21 : decode cX12_isRipe 21 = .ok (.getfield 34, 3) := by decide +kernel
theorem dX12_isRipe_24 : decode cX12_isRipe 24 = .ok (.iload_n 1, 1) := by decide +kernel
theorem dX12_isRipe_25 : decode cX12_isRipe 25 = .ok (.iaload, 1) := by decide +kernel
theorem dX12_isRipe_26 : decode cX12_isRipe 26 = .ok (.iaload, 1) := by decide +kernel
theorem dX12_isRipe_27 : decode cX12_isRipe 27 = .ok (.if_icmp .lt 7, 3) := by decide +kernel
theorem dX12_isRipe_30 : decode cX12_isRipe 30 = .ok (.iconst 1, 1) := by decide +kernel
theorem dX12_isRipe_31 : decode cX12_isRipe 31 = .ok (.goto 4, 3) := by decide +kernel
theorem dX12_isRipe_34 : decode cX12_isRipe 34 = .ok (.iconst 0, 1) := by decide +kernel
theorem dX12_isRipe_35 : decode cX12_isRipe 35 = .ok (.ireturn, 1) := by decide +kernel
theorem dX12_load_0 : decode cX12_load 0 = .ok (.iload_n 1, 1) := by decide +kernel
theorem dX12_load_1 : decode cX12_load 1 = .ok (.iconst 4, 1) := by decide +kernel
theorem dX12_load_2 : decode cX12_load 2 = .ok (.invokestatic 95, 3) := by decide +kernel
theorem dX12_load_5 : decode cX12_load 5 = .ok (.ifCond .eq 14, 3) := by decide +kernel
theorem dX12_load_8 : decode cX12_load 8 = .ok (.iload_n 2, 1) := by decide +kernel
theorem dX12_load_9 : decode cX12_load 9 = .ok (.aload_n 0, 1) := by decide +kernel
theorem dX12_load_10 : decode cX12_load 10 = .ok (.getfield 115, 3) := by decide +kernel
theorem dX12_load_13 : decode cX12_load 13 = .ok (.invokestatic 95, 3) := by decide +kernel
theorem dX12_load_16 : decode cX12_load 16 = .ok (.ifCond .ne 9, 3) := by decide +kernel
theorem dX12_load_19 : decode cX12_load 19 = .ok (.aload_n 0, 1) := by decide +kernel
theorem dX12_load_20 : decode cX12_load 20 = .ok (.iconst (-1), 1) := by decide +kernel
theorem dX12_load_21 : decode cX12_load 21 = .ok (.invokevirtual 103, 3) := by decide +kernel
theorem dX12_load_24 : decode cX12_load 24 = .ok (.ireturn, 1) := by decide +kernel
theorem dX12_load_25 : decode cX12_load 25 = .ok (.aload_n 0, 1) := by decide +kernel
theorem dX12_load_26 : decode cX12_load 26 = .ok (.getfield 86, 3) := by decide +kernel
theorem dX12_load_29 : decode cX12_load 29 = .ok (.bipush 80, 2) := by decide +kernel
theorem dX12_load_31 : decode cX12_load 31 = .ok (.iconst 4, 1) := by decide +kernel
theorem dX12_load_32 : decode cX12_load 32 = .ok (.iload_n 1, 1) := by decide +kernel
theorem dX12_load_33 : decode cX12_load 33 = .ok (.imul, 1) := by decide +kernel
theorem dX12_load_34 : decode cX12_load 34 = .ok (.iadd, 1) := by decide +kernel
theorem dX12_load_35 : decode cX12_load 35 = .ok (.iaload, 1) := by decide +kernel
theorem dX12_load_36 : decode cX12_load 36 = .ok (.ifCond .gt 11, 3) := by decide +kernel
theorem dX12_load_39 : decode cX12_load 39 = .ok (.aload_n 0, 1) := by decide +kernel
theorem dX12_load_40 : decode cX12_load 40 = .ok (.iload_n 2, 1) := by decide +kernel
theorem dX12_load_41 : decode cX12_load 41 = .ok (.invokevirtual 121, 3) := by decide +kernel
theorem dX12_load_44 : decode cX12_load 44 = .ok (.ifCond .ne 10, 3) := by decide +kernel
theorem dX12_load_47 : decode cX12_load 47 = .ok (.aload_n 0, 1) := by decide +kernel
theorem dX12_load_48 : decode cX12_load 48 = .ok (.bipush (-3), 2) := by decide +kernel
theorem dX12_load_50 : decode cX12_load 50 = .ok (.invokevirtual 103, 3) := by decide +kernel
theorem dX12_load_53 : decode cX12_load 53 = .ok (.ireturn, 1) := by decide +kernel
theorem dX12_load_54 : decode cX12_load 54 = .ok (.iload_n 3, 1) := by decide +kernel
theorem dX12_load_55 : decode cX12_load 55 = .ok (.iconst 1, 1) := by decide +kernel
theorem dX12_load_56 : decode cX12_load 56 = .ok (.bipush 100, 2) := by decide +kernel
theorem dX12_load_58 : decode cX12_load 58 = .ok (.aload_n 0, 1) := by decide +kernel
theorem dX12_load_59 : decode cX12_load 59 = .ok (.getfield 86, 3) := by decide +kernel
theorem dX12_load_62 : decode cX12_load 62 = .ok (.iconst 0, 1) := by decide +kernel
theorem dX12_load_63 : decode cX12_load 63 = .ok (.iload_n 2, 1) := by decide +kernel
theorem dX12_load_64 : decode cX12_load 64 = .ok (.iadd, 1) := by decide +kernel
theorem dX12_load_65 : decode cX12_load 65 = .ok (.iaload, 1) := by decide +kernel
theorem dX12_load_66 : decode cX12_load 66 = .ok (.invokestatic 124, 3) := by decide +kernel
theorem dX12_load_69 : decode cX12_load 69 = .ok (.invokestatic 99, 3) := by decide +kernel
theorem dX12_load_72 : decode cX12_load 72 = .ok (.istore 4, 2) := by decide +kernel
theorem dX12_load_74 : decode cX12_load 74 = .ok (.iload 4, 2) := by decide +kernel
theorem dX12_load_76 : decode cX12_load 76 = .ok (.ifCond .eq 10, 3) := by decide +kernel
theorem dX12_load_79 : decode cX12_load 79 = .ok (.aload_n 0, 1) := by decide +kernel
theorem dX12_load_80 : decode cX12_load 80 = .ok (.iload 4, 2) := by decide +kernel
theorem dX12_load_82 : decode cX12_load 82 = .ok (.invokevirtual 103, 3) := by decide +kernel
theorem dX12_load_85 : decode cX12_load 85 = .ok (.ireturn, 1) := by decide +kernel
theorem dX12_load_86 : decode cX12_load 86 = .ok (.aload_n 0, 1) := by decide +kernel
theorem dX12_load_87 : decode cX12_load 87 = .ok (.getfield 86, 3) := by decide +kernel
theorem dX12_load_90 : decode cX12_load 90 = .ok (.iconst 0, 1) := by decide +kernel
theorem dX12_load_91 : decode cX12_load 91 = .ok (.iload_n 2, 1) := by decide +kernel
theorem dX12_load_92 : decode cX12_load 92 = .ok (.iadd, 1) := by decide +kernel
theorem dX12_load_93 : decode cX12_load 93 = .ok (.dup2, 1) := by decide +kernel
theorem dX12_load_94 : decode cX12_load 94 = .ok (.iaload, 1) := by decide +kernel
theorem dX12_load_95 : decode cX12_load 95 = .ok (.iload_n 3, 1) := by decide +kernel
theorem dX12_load_96 : decode cX12_load 96 = .ok (.isub, 1) := by decide +kernel
theorem dX12_load_97 : decode cX12_load 97 = .ok (.iastore, 1) := by decide +kernel
theorem dX12_load_98 : decode cX12_load 98 = .ok (.aload_n 0, 1) := by decide +kernel
theorem dX12_load_99 : decode cX12_load 99 = .ok (.getfield 86, 3) := by decide +kernel
theorem dX12_load_102 : decode cX12_load 102 = .ok (.bipush 80, 2) := by decide +kernel
theorem dX12_load_104 : decode cX12_load 104 = .ok (.iconst 4, 1) := by decide +kernel
theorem dX12_load_105 : decode cX12_load 105 = .ok (.iload_n 1, 1) := by decide +kernel
theorem dX12_load_106 : decode cX12_load 106 = .ok (.imul, 1) := by decide +kernel
theorem dX12_load_107 : decode cX12_load 107 = .ok (.iadd, 1) := by decide +kernel
theorem dX12_load_108 : decode cX12_load 108 = .ok (.iload_n 3, 1) := by decide +kernel
theorem dX12_load_109 : decode cX12_load 109 = .ok (.iastore, 1) := by decide +kernel
theorem dX12_load_110 : decode cX12_load 110 = .ok (.aload_n 0, 1) := by decide +kernel
theorem dX12_load_111 : decode cX12_load 111 = .ok (.getfield 86, 3) := by decide +kernel
theorem dX12_load_114 : decode cX12_load 114 = .ok (.bipush 80, 2) := by decide +kernel
theorem dX12_load_116 : decode cX12_load 116 = .ok (.iconst 4, 1) := by decide +kernel
theorem dX12_load_117 : decode cX12_load 117 = .ok (.iload_n 1, 1) := by decide +kernel
theorem dX12_load_118 : decode cX12_load 118 = .ok (.imul, 1) := by decide +kernel
theorem dX12_load_119 : decode cX12_load 119 = .ok (.iadd, 1) := by decide +kernel
theorem dX12_load_120 : decode cX12_load 120 = .ok (.iconst 1, 1) := by decide +kernel
theorem dX12_load_121 : decode cX12_load 121 = .ok (.iadd, 1) := by decide +kernel
theorem dX12_load_122 : decode cX12_load 122 = .ok (.aload_n 0, 1) := by decide +kernel
theorem dX12_load_123 : decode cX12_load 123 = .ok (.getfield 34, 3) := by decide +kernel
theorem dX12_load_126 : decode cX12_load 126 = .ok (.iload_n 2, 1) := by decide +kernel
theorem dX12_load_127 : decode cX12_load 127 = .ok (.iaload, 1) := by decide +kernel
theorem dX12_load_128 : decode cX12_load 128 = .ok (.iastore, 1) := by decide +kernel
theorem dX12_load_129 : decode cX12_load 129 = .ok (.aload_n 0, 1) := by decide +kernel
theorem dX12_load_130 : decode cX12_load 130 = .ok (.getfield 86, 3) := by decide +kernel
theorem dX12_load_133 : decode cX12_load 133 = .ok (.bipush 80, 2) := by decide +kernel
theorem dX12_load_135 : decode cX12_load 135 = .ok (.iconst 4, 1) := by decide +kernel
theorem dX12_load_136 : decode cX12_load 136 = .ok (.iload_n 1, 1) := by decide +kernel
theorem dX12_load_137 : decode cX12_load 137 = .ok (.imul, 1) := by decide +kernel
theorem dX12_load_138 : decode cX12_load 138 = .ok (.iadd, 1) := by decide +kernel
theorem dX12_load_139 : decode cX12_load 139 = .ok (.iconst 2, 1) := by decide +kernel
theorem dX12_load_140 : decode cX12_load 140 = .ok (.iadd, 1) := by decide +kernel
theorem dX12_load_141 : decode cX12_load 141 = .ok (.aload_n 0, 1) := by decide +kernel
theorem dX12_load_142 : decode cX12_load 142 = .ok (.getfield 22, 3) := by decide +kernel
theorem dX12_load_145 : decode cX12_load 145 = .ok (.aload_n 0, 1) := by decide +kernel
theorem dX12_load_146 : decode cX12_load 146 = .ok (.getfield 34, 3) := by decide +kernel
theorem dX12_load_149 : decode cX12_load 149 = .ok (.iload_n 2, 1) := by decide +kernel
theorem dX12_load_150 : decode cX12_load 150 = .ok (.iaload, 1) := by decide +kernel
theorem dX12_load_151 : decode cX12_load 151 = .ok (.iaload, 1) := by decide +kernel
theorem dX12_load_152 : decode cX12_load 152 = .ok (.iastore, 1) := by decide +kernel
theorem dX12_load_153 : decode cX12_load 153 = .ok (.aload_n 0, 1) := by decide +kernel
theorem dX12_load_154 : decode cX12_load 154 = .ok (.getfield 22, 3) := by decide +kernel
theorem dX12_load_157 : decode cX12_load 157 = .ok (.aload_n 0, 1) := by decide +kernel
theorem dX12_load_158 : decode cX12_load 158 = .ok (.getfield 34, 3) := by decide +kernel
theorem dX12_load_161 : decode cX12_load 161 = .ok (.iload_n 2, 1) := by decide +kernel
theorem dX12_load_162 : decode cX12_load 162 = .ok (.iaload, 1) := by decide +kernel
theorem dX12_load_163 : decode cX12_load 163 = .ok (.iaload, 1) := by decide +kernel
theorem dX12_load_164 : decode cX12_load 164 = .ok (.ireturn, 1) := by decide +kernel
theorem dX12_pair_0 : decode cX12_pair 0 = .ok (.iload_n 1, 1) := by decide +kernel
theorem dX12_pair_1 : decode cX12_pair 1 = .ok (.iconst 1, 1) := by decide +kernel
theorem dX12_pair_2 : decode cX12_pair 2 = .ok (.isub, 1) := by decide +kernel
theorem dX12_pair_3 : decode cX12_pair 3 = .ok (.bipush 8, 2) := by decide +kernel
theorem dX12_pair_5 : decode cX12_pair 5 = .ok (.invokestatic 95, 3) := by decide +kernel
theorem dX12_pair_8 : decode cX12_pair 8 = .ok (.ifCond .ne 9, 3) := by decide +kernel
theorem dX12_pair_11 : decode cX12_pair 11 = .ok (.aload_n 0, 1) := by decide +kernel
theorem dX12_pair_12 : decode cX12_pair 12 = .ok (.iconst (-1), 1) := by decide +kernel
theorem dX12_pair_13 : decode cX12_pair 13 = .ok (.invokevirtual 103, 3) := by decide +kernel
theorem dX12_pair_16 : decode cX12_pair 16 = .ok (.ireturn, 1) := by decide +kernel
theorem dX12_pair_17 : decode cX12_pair 17 = .ok (.aload_n 0, 1) := by decide +kernel
theorem dX12_pair_18 : decode cX12_pair 18 = .ok (.getfield 129, 3) := by decide +kernel
theorem dX12_pair_21 : decode cX12_pair 21 = .ok (.iconst 4, 1) := by decide +kernel
theorem dX12_pair_22 : decode cX12_pair 22 = .ok (.if_icmp .ne 10, 3) := by decide +kernel
theorem dX12_pair_25 : decode cX12_pair 25 = .ok (.aload_n 0, 1) := by decide +kernel
theorem dX12_pair_26 : decode cX12_pair 26 = .ok (.bipush (-6), 2) := by decide +kernel
theorem dX12_pair_28 : decode cX12_pair 28 = .ok (.invokevirtual 103, 3) := by decide +kernel
theorem dX12_pair_31 : decode cX12_pair 31 = .ok (.ireturn, 1) := by decide +kernel
theorem dX12_pair_32 : decode cX12_pair 32 = .ok (.aload_n 0, 1) := by decide +kernel
theorem dX12_pair_33 : decode cX12_pair 33 = .ok (.getfield 40, 3) := by decide +kernel
theorem dX12_pair_36 : decode cX12_pair 36 = .ok (.aload_n 0, 1) := by decide +kernel
theorem dX12_pair_37 : decode cX12_pair 37 = .ok (.getfield 129, 3) := by decide +kernel
theorem dX12_pair_40 : decode cX12_pair 40 = .ok (.iload_n 1, 1) := by decide +kernel
theorem dX12_pair_41 : decode cX12_pair 41 = .ok (.iastore, 1) := by decide +kernel
theorem dX12_pair_42 : decode cX12_pair 42 = .ok (.iconst 0, 1) := by decide +kernel
theorem dX12_pair_43 : decode cX12_pair 43 = .ok (.istore_n 2, 1) := by decide +kernel
theorem dX12_pair_44 : decode cX12_pair 44 = .ok (.iload_n 2, 1) := by decide +kernel
theorem dX12_pair_45 : decode cX12_pair 45 = .ok (.bipush 12, 2) := by decide +kernel
theorem dX12_pair_47 : decode cX12_pair 47 = .ok (.if_icmp .ge 25, 3) := by decide +kernel
theorem dX12_pair_50 : decode cX12_pair 50 = .ok (.aload_n 0, 1) := by decide +kernel
theorem dX12_pair_51 : decode cX12_pair 51 = .ok (.getfield 43, 3) := by decide +kernel
theorem dX12_pair_54 : decode cX12_pair 54 = .ok (.bipush 12, 2) := by decide +kernel
theorem dX12_pair_56 : decode cX12_pair 56 = .ok (.aload_n 0, 1) := by decide +kernel
theorem dX12_pair_57 : decode cX12_pair 57 = .ok (.getfield 129, 3) := by decide +kernel
theorem dX12_pair_60 : decode cX12_pair 60 = .ok (.imul, 1) := by decide +kernel
theorem dX12_pair_61 : decode cX12_pair 61 = .ok (.iload_n 2, 1) := by decide +kernel
theorem dX12_pair_62 : decode cX12_pair 62 = .ok (.iadd, 1) := by decide +kernel
theorem dX12_pair_63 : decode cX12_pair 63 = .ok (.bipush 50, 2) := by decide +kernel
theorem dX12_pair_65 : decode cX12_pair 65 = .ok (.iastore, 1) := by decide +kernel
theorem dX12_pair_66 : decode cX12_pair 66 = .ok (.iinc 2 1, 3) := by decide +kernel
theorem dX12_pair_69 : decode cX12_pair 69 = .ok (.goto (-25), 3) := by decide +kernel
theorem dX12_pair_72 : decode cX12_pair 72 = .ok (.aload_n 0, 1) := by decide +kernel
theorem dX12_pair_73 : decode cX12_pair 73 = .ok (.dup, 1) := by decide +kernel
theorem dX12_pair_74 : decode cX12_pair 74 = .ok (.getfield 129, 3) := by decide +kernel
theorem dX12_pair_77 : decode cX12_pair 77 = .ok (.iconst 1, 1) := by decide +kernel
theorem dX12_pair_78 : decode cX12_pair 78 = .ok (.iadd, 1) := by decide +kernel
theorem dX12_pair_79 : decode cX12_pair 79 = .ok (.putfield 129, 3) := by decide +kernel
theorem dX12_pair_82 : decode cX12_pair 82 = .ok (.aload_n 0, 1) := by decide +kernel
theorem dX12_pair_83 : decode cX12_pair 83 = .ok (.getfield 129, 3) := by decide +kernel
theorem dX12_pair_86 : decode cX12_pair 86 = .ok (.iconst 1, 1) := by decide +kernel
theorem dX12_pair_87 : decode cX12_pair 87 = .ok (.isub, 1) := by decide +kernel
theorem dX12_pair_88 : decode cX12_pair 88 = .ok (.ireturn, 1) := by decide +kernel
theorem dX12_isBegun_0 : decode cX12_isBegun 0 = .ok (.iconst 0, 1) := by decide +kernel
theorem dX12_isBegun_1 : decode cX12_isBegun 1 = .ok (.istore_n 2, 1) := by decide +kernel
theorem dX12_isBegun_2 : decode cX12_isBegun 2 = .ok (.iconst 0, 1) := by decide +kernel
theorem dX12_isBegun_3 : decode cX12_isBegun 3 = .ok (.istore_n 3, 1) := by decide +kernel
theorem dX12_isBegun_4 : decode cX12_isBegun 4 = .ok (.iload_n 3, 1) := by decide +kernel
theorem dX12_isBegun_5 : decode cX12_isBegun 5 = .ok (.iconst 3, 1) := by decide +kernel
theorem dX12_isBegun_6 : decode cX12_isBegun 6 = .ok (.if_icmp .ge 43, 3) := by decide +kernel
theorem dX12_isBegun_9 : decode cX12_isBegun 9 = .ok (.iload_n 2, 1) := by decide +kernel
theorem dX12_isBegun_10 : decode cX12_isBegun 10 = .ok (.ifCond .ne 27, 3) := by decide +kernel
theorem dX12_isBegun_13 : decode cX12_isBegun 13 = .ok (.aload_n 0, 1) := by decide +kernel
theorem dX12_isBegun_14 : decode cX12_isBegun 14 = .ok (.getfield 49, 3) := by decide +kernel
theorem dX12_isBegun_17 : decode cX12_isBegun 17 = .ok (.iload_n 3, 1) := by decide +kernel
theorem dX12_isBegun_18 : decode cX12_isBegun 18 = .ok (.iaload, 1) := by decide +kernel
theorem dX12_isBegun_19 : decode cX12_isBegun 19 = .ok (.iload_n 1, 1) := by decide +kernel
theorem dX12_isBegun_20 : decode cX12_isBegun 20 = .ok (.if_icmp .ne 21, 3) := by decide +kernel
theorem dX12_isBegun_23 : decode cX12_isBegun 23 = .ok (.aload_n 0, 1) := by decide +kernel
theorem dX12_isBegun_24 : decode cX12_isBegun 24 = .ok (.getfield 86, 3) := by decide +kernel
theorem dX12_isBegun_27 : decode cX12_isBegun 27 = .ok (.bipush 105, 2) := by decide +kernel
theorem dX12_isBegun_29 : decode cX12_isBegun 29 = .ok (.iconst 2, 1) := by decide +kernel
theorem dX12_isBegun_30 : decode cX12_isBegun 30 = .ok (.iload_n 3, 1) := by decide +kernel
theorem dX12_isBegun_31 : decode cX12_isBegun 31 = .ok (.imul, 1) := by decide +kernel
theorem dX12_isBegun_32 : decode cX12_isBegun 32 = .ok (.iadd, 1) := by decide +kernel
theorem dX12_isBegun_33 : decode cX12_isBegun 33 = .ok (.iaload, 1) := by decide +kernel
theorem dX12_isBegun_34 : decode cX12_isBegun 34 = .ok (.ifCond .le 7, 3) := by decide +kernel
theorem dX12_isBegun_37 : decode cX12_isBegun 37 = .ok (.iconst 1, 1) := by decide +kernel
theorem dX12_isBegun_38 : decode cX12_isBegun 38 = .ok (.goto 4, 3) := by decide +kernel
theorem dX12_isBegun_41 : decode cX12_isBegun 41 = .ok (.iconst 0, 1) := by decide +kernel
theorem dX12_isBegun_42 : decode cX12_isBegun 42 = .ok (.istore_n 2, 1) := by decide +kernel
theorem dX12_isBegun_43 : decode cX12_isBegun 43 = .ok (.iinc 3 1, 3) := by decide +kernel
theorem dX12_isBegun_46 : decode cX12_isBegun 46 = .ok (.goto (-42), 3) := by decide +kernel
theorem dX12_isBegun_49 : decode cX12_isBegun 49 = .ok (.iload_n 2, 1) := by decide +kernel
theorem dX12_isBegun_50 : decode cX12_isBegun 50 = .ok (.ireturn, 1) := by decide +kernel
theorem dX12_wire_0 : decode cX12_wire 0 = .ok (.iload_n 1, 1) := by decide +kernel
theorem dX12_wire_1 : decode cX12_wire 1 = .ok (.iconst 2, 1) := by decide +kernel
