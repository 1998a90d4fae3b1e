theorem dX12_choices_0 : decode cX12_choices 0 = .ok (.aload_n 0, 1) := by decide +kernel
theorem dX12_choices_1 : decode cX12_choices 1 = .ok (.iconst 0, 1) := by decide +kernel
theorem dX12_choices_2 : decode cX12_choices 2 = .ok (.putfield 85, 3) := by decide +kernel
theorem dX12_choices_5 : decode cX12_choices 5 = .ok (.aload_n 0, 1) := by decide +kernel
theorem dX12_choices_6 : decode cX12_choices 6 = .ok (.iconst (-1), 1) := by decide +kernel
theorem dX12_choices_7 : decode cX12_choices 7 = .ok (.putfield 55, 3) := by decide +kernel
theorem dX12_choices_10 : decode cX12_choices 10 = .ok (.aload_n 0, 1) := by decide +kernel
set_option maxRecDepth 20000 in
theorem ggX12_choices_X12_marksOf : GoodIn wsX12_choices wsX12_marksOf := goodIn_r _ [17, 3, 18, 19, 90, 91, 92, 93, 94, 95, 96, 97, 98, 99, 100, 101, 102, 103, 104, 105, 106, 107, 108, 109, 110, 111, 112, 113, 114, 115, 116, 117, 118, 119, 120, 121, 122, 123, 124, 125, 126, 127, 128, 129] rfl (by decide +kernel)
set_option maxRecDepth 20000 in
theorem gX12_choices_X12_marksOf : GoodIn wsX12_choices (wsV RX12 164 RX12 yX12_marksOf wsX12_marksOf) := goodIn_app (goodIn_r _ [13, 14, 15, 16] rfl (by decide +kernel)) ggX12_choices_X12_marksOf
theorem dX12_choices_11 : decode cX12_choices 11 = .ok (.invokevirtual 164, 3) := by decide +kernel
theorem dX12_choices_14 : decode cX12_choices 14 = .ok (.istore_n 3, 1) := by decide +kernel
theorem dX12_choices_15 : decode cX12_choices 15 = .ok (.iload_n 3, 1) := by decide +kernel
theorem dX12_choices_16 : decode cX12_choices 16 = .ok (.iconst 1, 1) := by decide +kernel
theorem dX12_choices_17 : decode cX12_choices 17 = .ok (.if_icmp .lt 33, 3) := by decide +kernel
theorem dX12_choices_50 : decode cX12_choices 50 = .ok (.iconst (-1), 1) := by decide +kernel
theorem dX12_choices_51 : decode cX12_choices 51 = .ok (.ireturn, 1) := by decide +kernel
theorem dX12_choices_20 : decode cX12_choices 20 = .ok (.iload_n 3, 1) := by decide +kernel
theorem dX12_choices_21 : decode cX12_choices 21 = .ok (.iconst 2, 1) := by decide +kernel
theorem dX12_choices_22 : decode cX12_choices 22 = .ok (.if_icmp .gt 28, 3) := by decide +kernel
theorem dX12_choices_25 : decode cX12_choices 25 = .ok (.iload_n 1, 1) := by decide +kernel
set_option maxRecDepth 20000 in
theorem ggX12_choices_X12_isCode : GoodIn wsX12_choices wsX12_isCode := goodIn_r _ [22] rfl (by decide +kernel)
set_option maxRecDepth 20000 in
theorem gX12_choices_X12_isCode : GoodIn wsX12_choices (va_wsS RX12 158 yX12_isCode wsX12_isCode) := goodIn_app (goodIn_r _ [20, 21, 16] rfl (by decide +kernel)) ggX12_choices_X12_isCode
theorem dX12_choices_26 : decode cX12_choices 26 = .ok (.invokestatic 158, 3) := by decide +kernel
theorem dX12_choices_29 : decode cX12_choices 29 = .ok (.ifCond .eq 21, 3) := by decide +kernel
theorem dX12_choices_32 : decode cX12_choices 32 = .ok (.iload_n 2, 1) := by decide +kernel
theorem dX12_choices_33 : decode cX12_choices 33 = .ok (.invokestatic 158, 3) := by decide +kernel
theorem dX12_choices_36 : decode cX12_choices 36 = .ok (.ifCond .eq 14, 3) := by decide +kernel
theorem dX12_choices_39 : decode cX12_choices 39 = .ok (.aload_n 0, 1) := by decide +kernel
theorem dX12_choices_40 : decode cX12_choices 40 = .ok (.getfield 13, 3) := by decide +kernel
theorem dX12_choices_43 : decode cX12_choices 43 = .ok (.iconst 0, 1) := by decide +kernel
theorem dX12_choices_44 : decode cX12_choices 44 = .ok (.iaload, 1) := by decide +kernel
theorem dX12_choices_45 : decode cX12_choices 45 = .ok (.bipush 100, 2) := by decide +kernel
theorem dX12_choices_47 : decode cX12_choices 47 = .ok (.if_icmp .le 5, 3) := by decide +kernel
theorem dX12_choices_52 : decode cX12_choices 52 = .ok (.aload_n 0, 1) := by decide +kernel
theorem dX12_choices_53 : decode cX12_choices 53 = .ok (.iload_n 2, 1) := by decide +kernel
theorem dX12_choices_54 : decode cX12_choices 54 = .ok (.iconst 0, 1) := by decide +kernel
theorem dX12_choices_55 : decode cX12_choices 55 = .ok (.iconst 0, 1) := by decide +kernel
set_option maxRecDepth 20000 in
theorem ggX12_choices_X12_writeWith : GoodIn wsX12_choices wsX12_writeWith := goodIn_r _ [26, 27, 3, 18, 19, 4, 28, 29, 30, 16, 31, 32, 33, 34, 35, 36, 37, 38, 90, 91, 92, 93, 94, 95, 96, 97, 98, 99, 100, 101, 102, 103, 104, 105, 106, 107, 108, 109, 110, 111, 112, 113, 114, 115, 116, 117, 118, 119, 120, 121, 122, 123, 124, 125, 126, 127, 128, 129] rfl (by decide +kernel)
set_option maxRecDepth 20000 in
theorem gX12_choices_X12_writeWith : GoodIn wsX12_choices (wsV RX12 203 RX12 yX12_writeWith wsX12_writeWith) := goodIn_app (goodIn_r _ [23, 24, 25, 16] rfl (by decide +kernel)) ggX12_choices_X12_writeWith
theorem dX12_choices_56 : decode cX12_choices 56 = .ok (.invokevirtual 203, 3) := by decide +kernel
theorem dX12_choices_59 : decode cX12_choices 59 = .ok (.ifCond .ne 13, 3) := by decide +kernel
theorem dX12_choices_72 : decode cX12_choices 72 = .ok (.iconst 0, 1) := by decide +kernel
theorem dX12_choices_73 : decode cX12_choices 73 = .ok (.istore 4, 2) := by decide +kernel
theorem dX12_choices_75 : decode cX12_choices 75 = .ok (.iconst 0, 1) := by decide +kernel
theorem dX12_choices_76 : decode cX12_choices 76 = .ok (.istore 5, 2) := by decide +kernel
theorem dX12_choices_78 : decode cX12_choices 78 = .ok (.iload 5, 2) := by decide +kernel
theorem dX12_choices_80 : decode cX12_choices 80 = .ok (.sipush 256, 3) := by decide +kernel
theorem dX12_choices_83 : decode cX12_choices 83 = .ok (.if_icmp .ge 285, 3) := by decide +kernel
theorem dX12_choices_368 : decode cX12_choices 368 = .ok (.aload_n 0, 1) := by decide +kernel
theorem dX12_choices_369 : decode cX12_choices 369 = .ok (.iload 4, 2) := by decide +kernel
theorem dX12_choices_371 : decode cX12_choices 371 = .ok (.putfield 213, 3) := by decide +kernel
theorem dX12_choices_374 : decode cX12_choices 374 = .ok (.aload_n 0, 1) := by decide +kernel
theorem dX12_choices_375 : decode cX12_choices 375 = .ok (.iload_n 1, 1) := by decide +kernel
theorem dX12_choices_376 : decode cX12_choices 376 = .ok (.putfield 216, 3) := by decide +kernel
theorem dX12_choices_379 : decode cX12_choices 379 = .ok (.aload_n 0, 1) := by decide +kernel
theorem dX12_choices_380 : decode cX12_choices 380 = .ok (.iload_n 2, 1) := by decide +kernel
theorem dX12_choices_381 : decode cX12_choices 381 = .ok (.putfield 219, 3) := by decide +kernel
theorem dX12_choices_384 : decode cX12_choices 384 = .ok (.aload_n 0, 1) := by decide +kernel
theorem dX12_choices_385 : decode cX12_choices 385 = .ok (.aload_n 0, 1) := by decide +kernel
theorem dX12_choices_386 : decode cX12_choices 386 = .ok (.getfield 148, 3) := by decide +kernel
theorem dX12_choices_389 : decode cX12_choices 389 = .ok (.putfield 51, 3) := by decide +kernel
theorem dX12_choices_392 : decode cX12_choices 392 = .ok (.iload 4, 2) := by decide +kernel
theorem dX12_choices_394 : decode cX12_choices 394 = .ok (.ireturn, 1) := by decide +kernel
theorem dX12_choices_86 : decode cX12_choices 86 = .ok (.iconst 0, 1) := by decide +kernel
theorem dX12_choices_87 : decode cX12_choices 87 = .ok (.istore 6, 2) := by decide +kernel
theorem dX12_choices_89 : decode cX12_choices 89 = .ok (.iload 6, 2) := by decide +kernel
theorem dX12_choices_91 : decode cX12_choices 91 = .ok (.iload_n 3, 1) := by decide +kernel
theorem dX12_choices_92 : decode cX12_choices 92 = .ok (.iconst 1, 1) := by decide +kernel
theorem dX12_choices_93 : decode cX12_choices 93 = .ok (.if_icmp .ne 7, 3) := by decide +kernel
theorem dX12_choices_96 : decode cX12_choices 96 = .ok (.iconst 1, 1) := by decide +kernel
theorem dX12_choices_97 : decode cX12_choices 97 = .ok (.goto 6, 3) := by decide +kernel
theorem dX12_choices_103 : decode cX12_choices 103 = .ok (.if_icmp .ge 259, 3) := by decide +kernel
theorem dX12_choices_362 : decode cX12_choices 362 = .ok (.iinc 5 1, 3) := by decide +kernel
theorem dX12_choices_365 : decode cX12_choices 365 = .ok (.goto (-287), 3) := by decide +kernel
theorem dX12_choices_106 : decode cX12_choices 106 = .ok (.aload_n 0, 1) := by decide +kernel
theorem dX12_choices_107 : decode cX12_choices 107 = .ok (.iload_n 2, 1) := by decide +kernel
theorem dX12_choices_108 : decode cX12_choices 108 = .ok (.iload 5, 2) := by decide +kernel
set_option maxRecDepth 20000 in
theorem ggX12_choices_X12_isAlone : GoodIn wsX12_choices wsX12_isAlone := goodIn_r _ [42, 32, 27, 43, 44, 45, 16, 46, 47, 48, 49, 50, 51, 52, 53, 54, 55, 56, 57, 58, 38, 59, 60, 90, 91, 92, 93, 94, 95, 96, 97, 98, 99, 100, 101, 102, 103, 104, 105, 106, 107, 108, 109, 110, 111, 112, 113, 114, 115, 116, 117, 118, 119, 120, 121, 122, 123, 124, 125, 126, 127, 128, 129] rfl (by decide +kernel)
set_option maxRecDepth 20000 in
theorem gX12_choices_X12_isAlone : GoodIn wsX12_choices (wsV RX12 206 RX12 yX12_isAlone wsX12_isAlone) := goodIn_app (goodIn_r _ [39, 40, 41, 16] rfl (by decide +kernel)) ggX12_choices_X12_isAlone
theorem dX12_choices_110 : decode cX12_choices 110 = .ok (.invokevirtual 206, 3) := by decide +kernel
theorem dX12_choices_113 : decode cX12_choices 113 = .ok (.ifCond .ne 243, 3) := by decide +kernel
theorem dX12_choices_356 : decode cX12_choices 356 = .ok (.iinc 6 1, 3) := by decide +kernel
theorem dX12_choices_359 : decode cX12_choices 359 = .ok (.goto (-270), 3) := by decide +kernel
theorem dX12_choices_116 : decode cX12_choices 116 = .ok (.iload_n 3, 1) := by decide +kernel
theorem dX12_choices_117 : decode cX12_choices 117 = .ok (.iconst 2, 1) := by decide +kernel
theorem dX12_choices_118 : decode cX12_choices 118 = .ok (.if_icmp .ne 13, 3) := by decide +kernel
theorem dX12_choices_131 : decode cX12_choices 131 = .ok (.aload_n 0, 1) := by decide +kernel
theorem dX12_choices_132 : decode cX12_choices 132 = .ok (.iload_n 1, 1) := by decide +kernel
theorem dX12_choices_133 : decode cX12_choices 133 = .ok (.iload_n 2, 1) := by decide +kernel
theorem dX12_choices_134 : decode cX12_choices 134 = .ok (.iload 5, 2) := by decide +kernel
theorem dX12_choices_136 : decode cX12_choices 136 = .ok (.iload 6, 2) := by decide +kernel
set_option maxRecDepth 20000 in
theorem ggX12_choices_X12_isChoice : GoodIn wsX12_choices wsX12_isChoice := goodIn_r _ [64, 65, 6, 5, 66, 27, 3, 18, 23, 24, 25, 16, 26, 19, 4, 28, 29, 30, 31, 32, 33, 34, 35, 36, 37, 38, 67, 68, 69, 70, 47, 43, 44, 45, 46, 48, 49, 50, 51, 52, 53, 54, 55, 56, 57, 58, 59, 60, 71, 72, 73, 74, 90, 91, 92, 93, 94, 95, 96, 97, 98, 99, 100, 101, 102, 103, 104, 105, 106, 107, 108, 109, 110, 111, 112, 113, 114, 115, 116, 117, 118, 119, 120, 121, 122, 123, 124, 125, 126, 127, 128, 129] rfl (by decide +kernel)
set_option maxRecDepth 20000 in
theorem gX12_choices_X12_isChoice : GoodIn wsX12_choices (wsV RX12 209 RX12 yX12_isChoice wsX12_isChoice) := goodIn_app (goodIn_r _ [61, 62, 63, 16] rfl (by decide +kernel)) ggX12_choices_X12_isChoice
theorem dX12_choices_138 : decode cX12_choices 138 = .ok (.invokevirtual 209, 3) := by decide +kernel
theorem dX12_choices_141 : decode cX12_choices 141 = .ok (.ifCond .ne 6, 3) := by decide +kernel
theorem dX12_choices_147 : decode cX12_choices 147 = .ok (.aload_n 0, 1) := by decide +kernel
theorem dX12_choices_148 : decode cX12_choices 148 = .ok (.aload_n 0, 1) := by decide +kernel
theorem dX12_choices_149 : decode cX12_choices 149 = .ok (.getfield 64, 3) := by decide +kernel
theorem dX12_choices_152 : decode cX12_choices 152 = .ok (.iconst 0, 1) := by decide +kernel
theorem dX12_choices_153 : decode cX12_choices 153 = .ok (.aload_n 0, 1) := by decide +kernel
theorem dX12_choices_154 : decode cX12_choices 154 = .ok (.getfield 135, 3) := by decide +kernel
set_option maxRecDepth 20000 in
theorem ggX12_choices_X12_costOf_ : GoodIn wsX12_choices wsX12_costOf_ := goodIn_r _ [78, 79, 80, 81, 16, 82, 83, 84, 85, 86, 87, 88, 89, 90, 91, 92, 93, 94, 95, 96, 97, 98, 99, 100, 101, 102, 103, 104, 105, 106, 107, 108, 109, 110, 111, 112, 113, 114, 115, 116, 117, 118, 119, 120, 121, 122, 123, 124, 125, 126, 127, 128, 129] rfl (by decide +kernel)
set_option maxRecDepth 20000 in
theorem gX12_choices_X12_costOf_ : GoodIn wsX12_choices (wsV RX12 189 RX12 yX12_costOf_ wsX12_costOf_) := goodIn_app (goodIn_r _ [75, 76, 77, 16] rfl (by decide +kernel)) ggX12_choices_X12_costOf_
theorem dX12_choices_157 : decode cX12_choices 157 = .ok (.invokevirtual 189, 3) := by decide +kernel
theorem dX12_choices_160 : decode cX12_choices 160 = .ok (.istore 7, 2) := by decide +kernel
theorem dX12_choices_207 : decode cX12_choices 207 = .ok (.iinc 4 1, 3) := by decide +kernel
theorem dX12_choices_210 : decode cX12_choices 210 = .ok (.iload 8, 2) := by decide +kernel
theorem dX12_choices_212 : decode cX12_choices 212 = .ok (.sipush 200, 3) := by decide +kernel
theorem dX12_choices_215 : decode cX12_choices 215 = .ok (.if_icmp .ne 6, 3) := by decide +kernel
theorem dX12_choices_221 : decode cX12_choices 221 = .ok (.iload 4, 2) := by decide +kernel
theorem dX12_choices_223 : decode cX12_choices 223 = .ok (.sipush 200, 3) := by decide +kernel
theorem dX12_choices_226 : decode cX12_choices 226 = .ok (.if_icmp .ge 8, 3) := by decide +kernel
theorem dX12_choices_234 : decode cX12_choices 234 = .ok (.sipush 200, 3) := by decide +kernel
theorem dX12_choices_237 : decode cX12_choices 237 = .ok (.iconst 1, 1) := by decide +kernel
theorem dX12_choices_238 : decode cX12_choices 238 = .ok (.isub, 1) := by decide +kernel
theorem dX12_choices_239 : decode cX12_choices 239 = .ok (.istore 9, 2) := by decide +kernel
theorem dX12_choices_241 : decode cX12_choices 241 = .ok (.iload 9, 2) := by decide +kernel
theorem dX12_choices_243 : decode cX12_choices 243 = .ok (.iload 8, 2) := by decide +kernel
theorem dX12_choices_245 : decode cX12_choices 245 = .ok (.if_icmp .le 50, 3) := by decide +kernel
theorem dX12_choices_295 : decode cX12_choices 295 = .ok (.aload_n 0, 1) := by decide +kernel
theorem dX12_choices_296 : decode cX12_choices 296 = .ok (.getfield 48, 3) := by decide +kernel
theorem dX12_choices_299 : decode cX12_choices 299 = .ok (.iconst 4, 1) := by decide +kernel
theorem dX12_choices_300 : decode cX12_choices 300 = .ok (.iload 8, 2) := by decide +kernel
theorem dX12_choices_302 : decode cX12_choices 302 = .ok (.imul, 1) := by decide +kernel
theorem dX12_choices_303 : decode cX12_choices 303 = .ok (.iload 5, 2) := by decide +kernel
theorem dX12_choices_305 : decode cX12_choices 305 = .ok (.iastore, 1) := by decide +kernel
theorem dX12_choices_306 : decode cX12_choices 306 = .ok (.aload_n 0, 1) := by decide +kernel
theorem dX12_choices_307 : decode cX12_choices 307 = .ok (.getfield 48, 3) := by decide +kernel
theorem dX12_choices_310 : decode cX12_choices 310 = .ok (.iconst 4, 1) := by decide +kernel
theorem dX12_choices_311 : decode cX12_choices 311 = .ok (.iload 8, 2) := by decide +kernel
theorem dX12_choices_313 : decode cX12_choices 313 = .ok (.imul, 1) := by decide +kernel
theorem dX12_choices_314 : decode cX12_choices 314 = .ok (.iconst 1, 1) := by decide +kernel
theorem dX12_choices_315 : decode cX12_choices 315 = .ok (.iadd, 1) := by decide +kernel
theorem dX12_choices_316 : decode cX12_choices 316 = .ok (.iload_n 3, 1) := by decide +kernel
theorem dX12_choices_317 : decode cX12_choices 317 = .ok (.iconst 1, 1) := by decide +kernel
theorem dX12_choices_318 : decode cX12_choices 318 = .ok (.if_icmp .ne 7, 3) := by decide +kernel
theorem dX12_choices_321 : decode cX12_choices 321 = .ok (.iconst (-1), 1) := by decide +kernel
theorem dX12_choices_322 : decode cX12_choices 322 = .ok (.goto 5, 3) := by decide +kernel
theorem dX12_choices_327 : decode cX12_choices 327 = .ok (.iastore, 1) := by decide +kernel
theorem dX12_choices_328 : decode cX12_choices 328 = .ok (.aload_n 0, 1) := by decide +kernel
theorem dX12_choices_329 : decode cX12_choices 329 = .ok (.getfield 48, 3) := by decide +kernel
theorem dX12_choices_332 : decode cX12_choices 332 = .ok (.iconst 4, 1) := by decide +kernel
theorem dX12_choices_333 : decode cX12_choices 333 = .ok (.iload 8, 2) := by decide +kernel
theorem dX12_choices_335 : decode cX12_choices 335 = .ok (.imul, 1) := by decide +kernel
theorem dX12_choices_336 : decode cX12_choices 336 = .ok (.iconst 2, 1) := by decide +kernel
theorem dX12_choices_337 : decode cX12_choices 337 = .ok (.iadd, 1) := by decide +kernel
theorem dX12_choices_338 : decode cX12_choices 338 = .ok (.iload 7, 2) := by decide +kernel
theorem dX12_choices_340 : decode cX12_choices 340 = .ok (.iastore, 1) := by decide +kernel
theorem dX12_choices_341 : decode cX12_choices 341 = .ok (.aload_n 0, 1) := by decide +kernel
theorem dX12_choices_342 : decode cX12_choices 342 = .ok (.getfield 48, 3) := by decide +kernel
theorem dX12_choices_345 : decode cX12_choices 345 = .ok (.iconst 4, 1) := by decide +kernel
theorem dX12_choices_346 : decode cX12_choices 346 = .ok (.iload 8, 2) := by decide +kernel
theorem dX12_choices_348 : decode cX12_choices 348 = .ok (.imul, 1) := by decide +kernel
theorem dX12_choices_349 : decode cX12_choices 349 = .ok (.iconst 3, 1) := by decide +kernel
theorem dX12_choices_350 : decode cX12_choices 350 = .ok (.iadd, 1) := by decide +kernel
theorem dX12_choices_351 : decode cX12_choices 351 = .ok (.aload_n 0, 1) := by decide +kernel
theorem dX12_choices_352 : decode cX12_choices 352 = .ok (.getfield 135, 3) := by decide +kernel
theorem dX12_choices_355 : decode cX12_choices 355 = .ok (.iastore, 1) := by decide +kernel
theorem dX12_choices_248 : decode cX12_choices 248 = .ok (.iconst 0, 1) := by decide +kernel
theorem dX12_choices_249 : decode cX12_choices 249 = .ok (.istore 10, 2) := by decide +kernel
theorem dX12_choices_251 : decode cX12_choices 251 = .ok (.iload 10, 2) := by decide +kernel
theorem dX12_choices_253 : decode cX12_choices 253 = .ok (.iconst 4, 1) := by decide +kernel
theorem dX12_choices_254 : decode cX12_choices 254 = .ok (.if_icmp .ge 35, 3) := by decide +kernel
theorem dX12_choices_289 : decode cX12_choices 289 = .ok (.iinc 9 (-1), 3) := by decide +kernel
theorem dX12_choices_292 : decode cX12_choices 292 = .ok (.goto (-51), 3) := by decide +kernel
theorem dX12_choices_257 : decode cX12_choices 257 = .ok (.aload_n 0, 1) := by decide +kernel
theorem dX12_choices_258 : decode cX12_choices 258 = .ok (.getfield 48, 3) := by decide +kernel
theorem dX12_choices_261 : decode cX12_choices 261 = .ok (.iconst 4, 1) := by decide +kernel
theorem dX12_choices_262 : decode cX12_choices 262 = .ok (.iload 9, 2) := by decide +kernel
theorem dX12_choices_264 : decode cX12_choices 264 = .ok (.imul, 1) := by decide +kernel
theorem dX12_choices_265 : decode cX12_choices 265 = .ok (.iload 10, 2) := by decide +kernel
theorem dX12_choices_267 : decode cX12_choices 267 = .ok (.iadd, 1) := by decide +kernel
theorem dX12_choices_268 : decode cX12_choices 268 = .ok (.aload_n 0, 1) := by decide +kernel
theorem dX12_choices_269 : decode cX12_choices 269 = .ok (.getfield 48, 3) := by decide +kernel
theorem dX12_choices_272 : decode cX12_choices 272 = .ok (.iconst 4, 1) := by decide +kernel
theorem dX12_choices_273 : decode cX12_choices 273 = .ok (.iload 9, 2) := by decide +kernel
theorem dX12_choices_275 : decode cX12_choices 275 = .ok (.imul, 1) := by decide +kernel
theorem dX12_choices_276 : decode cX12_choices 276 = .ok (.iconst 4, 1) := by decide +kernel
theorem dX12_choices_277 : decode cX12_choices 277 = .ok (.isub, 1) := by decide +kernel
theorem dX12_choices_278 : decode cX12_choices 278 = .ok (.iload 10, 2) := by decide +kernel
theorem dX12_choices_280 : decode cX12_choices 280 = .ok (.iadd, 1) := by decide +kernel
theorem dX12_choices_281 : decode cX12_choices 281 = .ok (.iaload, 1) := by decide +kernel
theorem dX12_choices_282 : decode cX12_choices 282 = .ok (.iastore, 1) := by decide +kernel
theorem dX12_choices_283 : decode cX12_choices 283 = .ok (.iinc 10 1, 3) := by decide +kernel
theorem dX12_choices_286 : decode cX12_choices 286 = .ok (.goto (-35), 3) := by decide +kernel
theorem dX12_choices_229 : decode cX12_choices 229 = .ok (.iload 4, 2) := by decide +kernel
theorem dX12_choices_231 : decode cX12_choices 231 = .ok (.goto 6, 3) := by decide +kernel
theorem dX12_choices_218 : decode cX12_choices 218 = .ok (.goto 138, 3) := by decide +kernel
theorem dX12_choices_162 : decode cX12_choices 162 = .ok (.iload 4, 2) := by decide +kernel
theorem dX12_choices_164 : decode cX12_choices 164 = .ok (.sipush 200, 3) := by decide +kernel
theorem dX12_choices_167 : decode cX12_choices 167 = .ok (.if_icmp .ge 8, 3) := by decide +kernel
theorem dX12_choices_175 : decode cX12_choices 175 = .ok (.sipush 200, 3) := by decide +kernel
theorem dX12_choices_178 : decode cX12_choices 178 = .ok (.istore 8, 2) := by decide +kernel
theorem dX12_choices_180 : decode cX12_choices 180 = .ok (.iload 8, 2) := by decide +kernel
theorem dX12_choices_182 : decode cX12_choices 182 = .ok (.ifCond .le 25, 3) := by decide +kernel
theorem dX12_choices_185 : decode cX12_choices 185 = .ok (.aload_n 0, 1) := by decide +kernel
theorem dX12_choices_186 : decode cX12_choices 186 = .ok (.getfield 48, 3) := by decide +kernel
theorem dX12_choices_189 : decode cX12_choices 189 = .ok (.iconst 4, 1) := by decide +kernel
theorem dX12_choices_190 : decode cX12_choices 190 = .ok (.iload 8, 2) := by decide +kernel
theorem dX12_choices_192 : decode cX12_choices 192 = .ok (.imul, 1) := by decide +kernel
theorem dX12_choices_193 : decode cX12_choices 193 = .ok (.iconst 2, 1) := by decide +kernel
theorem dX12_choices_194 : decode cX12_choices 194 = .ok (.isub, 1) := by decide +kernel
theorem dX12_choices_195 : decode cX12_choices 195 = .ok (.iaload, 1) := by decide +kernel
theorem dX12_choices_196 : decode cX12_choices 196 = .ok (.iload 7, 2) := by decide +kernel
theorem dX12_choices_198 : decode cX12_choices 198 = .ok (.if_icmp .le 9, 3) := by decide +kernel
theorem dX12_choices_201 : decode cX12_choices 201 = .ok (.iinc 8 (-1), 3) := by decide +kernel
theorem dX12_choices_204 : decode cX12_choices 204 = .ok (.goto (-24), 3) := by decide +kernel
theorem dX12_choices_170 : decode cX12_choices 170 = .ok (.iload 4, 2) := by decide +kernel
theorem dX12_choices_172 : decode cX12_choices 172 = .ok (.goto 6, 3) := by decide +kernel
theorem dX12_choices_144 : decode cX12_choices 144 = .ok (.goto 212, 3) := by decide +kernel
theorem dX12_choices_100 : decode cX12_choices 100 = .ok (.sipush 256, 3) := by decide +kernel
theorem dX12_choices_121 : decode cX12_choices 121 = .ok (.aload_n 0, 1) := by decide +kernel
theorem dX12_choices_122 : decode cX12_choices 122 = .ok (.iload_n 2, 1) := by decide +kernel
theorem dX12_choices_123 : decode cX12_choices 123 = .ok (.iload 6, 2) := by decide +kernel
theorem dX12_choices_125 : decode cX12_choices 125 = .ok (.invokevirtual 206, 3) := by decide +kernel
theorem dX12_choices_128 : decode cX12_choices 128 = .ok (.ifCond .ne 228, 3) := by decide +kernel
theorem dX12_choices_325 : decode cX12_choices 325 = .ok (.iload 6, 2) := by decide +kernel
theorem dX12_choices_62 : decode cX12_choices 62 = .ok (.aload_n 0, 1) := by decide +kernel
theorem dX12_choices_63 : decode cX12_choices 63 = .ok (.aload_n 0, 1) := by decide +kernel
theorem dX12_choices_64 : decode cX12_choices 64 = .ok (.getfield 102, 3) := by decide +kernel
theorem dX12_choices_67 : decode cX12_choices 67 = .ok (.putfield 55, 3) := by decide +kernel
theorem dX12_choices_70 : decode cX12_choices 70 = .ok (.iconst (-1), 1) := by decide +kernel
theorem dX12_choices_71 : decode cX12_choices 71 = .ok (.ireturn, 1) := by decide +kernel
