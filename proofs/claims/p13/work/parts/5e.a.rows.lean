theorem dX12_parts_0 : decode cX12_parts 0 = .ok (.aload_n 0, 1) := by decide +kernel
theorem dX12_parts_1 : decode cX12_parts 1 = .ok (.iconst 0, 1) := by decide +kernel
theorem dX12_parts_2 : decode cX12_parts 2 = .ok (.putfield 85, 3) := by decide +kernel
theorem dX12_parts_5 : decode cX12_parts 5 = .ok (.aload_n 0, 1) := by decide +kernel
theorem dX12_parts_6 : decode cX12_parts 6 = .ok (.iconst (-1), 1) := by decide +kernel
theorem dX12_parts_7 : decode cX12_parts 7 = .ok (.putfield 55, 3) := by decide +kernel
theorem dX12_parts_10 : decode cX12_parts 10 = .ok (.aload_n 0, 1) := by decide +kernel
theorem dX12_parts_11 : decode cX12_parts 11 = .ok (.getfield 13, 3) := by decide +kernel
theorem dX12_parts_14 : decode cX12_parts 14 = .ok (.iconst 0, 1) := by decide +kernel
theorem dX12_parts_15 : decode cX12_parts 15 = .ok (.iaload, 1) := by decide +kernel
theorem dX12_parts_16 : decode cX12_parts 16 = .ok (.istore_n 2, 1) := by decide +kernel
theorem dX12_parts_17 : decode cX12_parts 17 = .ok (.iload_n 2, 1) := by decide +kernel
theorem dX12_parts_18 : decode cX12_parts 18 = .ok (.iconst 1, 1) := by decide +kernel
theorem dX12_parts_19 : decode cX12_parts 19 = .ok (.if_icmp .lt 20, 3) := by decide +kernel
theorem dX12_parts_39 : decode cX12_parts 39 = .ok (.iconst (-1), 1) := by decide +kernel
theorem dX12_parts_40 : decode cX12_parts 40 = .ok (.ireturn, 1) := by decide +kernel
theorem dX12_parts_22 : decode cX12_parts 22 = .ok (.iload_n 2, 1) := by decide +kernel
theorem dX12_parts_23 : decode cX12_parts 23 = .ok (.bipush 60, 2) := by decide +kernel
theorem dX12_parts_25 : decode cX12_parts 25 = .ok (.if_icmp .gt 14, 3) := by decide +kernel
theorem dX12_parts_28 : decode cX12_parts 28 = .ok (.iload_n 1, 1) := by decide +kernel
theorem dX12_parts_29 : decode cX12_parts 29 = .ok (.ifCond .lt 10, 3) := by decide +kernel
theorem dX12_parts_32 : decode cX12_parts 32 = .ok (.iload_n 1, 1) := by decide +kernel
theorem dX12_parts_33 : decode cX12_parts 33 = .ok (.sipush 1000, 3) := by decide +kernel
theorem dX12_parts_36 : decode cX12_parts 36 = .ok (.if_icmp .le 5, 3) := by decide +kernel
theorem dX12_parts_41 : decode cX12_parts 41 = .ok (.iload_n 2, 1) := by decide +kernel
theorem dX12_parts_42 : decode cX12_parts 42 = .ok (.iconst 1, 1) := by decide +kernel
theorem dX12_parts_43 : decode cX12_parts 43 = .ok (.isub, 1) := by decide +kernel
theorem dX12_parts_44 : decode cX12_parts 44 = .ok (.istore_n 3, 1) := by decide +kernel
theorem dX12_parts_45 : decode cX12_parts 45 = .ok (.iload_n 3, 1) := by decide +kernel
theorem dX12_parts_46 : decode cX12_parts 46 = .ok (.ifCond .lt 197, 3) := by decide +kernel
theorem dX12_parts_243 : decode cX12_parts 243 = .ok (.iconst 0, 1) := by decide +kernel
theorem dX12_parts_244 : decode cX12_parts 244 = .ok (.istore_n 3, 1) := by decide +kernel
theorem dX12_parts_245 : decode cX12_parts 245 = .ok (.iconst 0, 1) := by decide +kernel
theorem dX12_parts_246 : decode cX12_parts 246 = .ok (.istore 4, 2) := by decide +kernel
theorem dX12_parts_248 : decode cX12_parts 248 = .ok (.iload 4, 2) := by decide +kernel
theorem dX12_parts_250 : decode cX12_parts 250 = .ok (.iload_n 2, 1) := by decide +kernel
theorem dX12_parts_251 : decode cX12_parts 251 = .ok (.if_icmp .ge 86, 3) := by decide +kernel
theorem dX12_parts_337 : decode cX12_parts 337 = .ok (.aload_n 0, 1) := by decide +kernel
theorem dX12_parts_338 : decode cX12_parts 338 = .ok (.getfield 73, 3) := by decide +kernel
theorem dX12_parts_341 : decode cX12_parts 341 = .ok (.iconst 0, 1) := by decide +kernel
theorem dX12_parts_342 : decode cX12_parts 342 = .ok (.iaload, 1) := by decide +kernel
theorem dX12_parts_343 : decode cX12_parts 343 = .ok (.istore 4, 2) := by decide +kernel
theorem dX12_parts_345 : decode cX12_parts 345 = .ok (.aload_n 0, 1) := by decide +kernel
theorem dX12_parts_346 : decode cX12_parts 346 = .ok (.aload_n 0, 1) := by decide +kernel
theorem dX12_parts_347 : decode cX12_parts 347 = .ok (.getfield 82, 3) := by decide +kernel
theorem dX12_parts_350 : decode cX12_parts 350 = .ok (.iload_n 3, 1) := by decide +kernel
set_option maxRecDepth 20000 in
theorem ggX12_parts_X12_become : GoodIn wsX12_parts wsX12_become := goodIn_r _ [89, 90, 91, 3, 17, 92, 93, 94, 95, 96, 97, 98, 99, 100, 101, 102, 103, 104, 105, 106, 107, 108, 109, 110, 111, 112, 113, 114, 115, 116, 117, 118, 119, 120, 121, 122, 123, 124, 125, 126, 127, 128, 129, 130, 131, 132] rfl (by decide +kernel)
set_option maxRecDepth 20000 in
theorem gX12_parts_X12_become : GoodIn wsX12_parts (wsV RX12 154 RX12 yX12_become wsX12_become) := goodIn_app (goodIn_r _ [86, 87, 88, 15] rfl (by decide +kernel)) ggX12_parts_X12_become
theorem dX12_parts_351 : decode cX12_parts 351 = .ok (.invokevirtual 154, 3) := by decide +kernel
theorem dX12_parts_354 : decode cX12_parts 354 = .ok (.iload 4, 2) := by decide +kernel
theorem dX12_parts_356 : decode cX12_parts 356 = .ok (.ireturn, 1) := by decide +kernel
theorem dX12_parts_254 : decode cX12_parts 254 = .ok (.aload_n 0, 1) := by decide +kernel
theorem dX12_parts_255 : decode cX12_parts 255 = .ok (.iload 4, 2) := by decide +kernel
theorem dX12_parts_257 : decode cX12_parts 257 = .ok (.aload_n 0, 1) := by decide +kernel
theorem dX12_parts_258 : decode cX12_parts 258 = .ok (.getfield 76, 3) := by decide +kernel
theorem dX12_parts_261 : decode cX12_parts 261 = .ok (.iload 4, 2) := by decide +kernel
theorem dX12_parts_263 : decode cX12_parts 263 = .ok (.iaload, 1) := by decide +kernel
theorem dX12_parts_264 : decode cX12_parts 264 = .ok (.aload_n 0, 1) := by decide +kernel
theorem dX12_parts_265 : decode cX12_parts 265 = .ok (.getfield 79, 3) := by decide +kernel
theorem dX12_parts_268 : decode cX12_parts 268 = .ok (.iload 4, 2) := by decide +kernel
theorem dX12_parts_270 : decode cX12_parts 270 = .ok (.iaload, 1) := by decide +kernel
set_option maxRecDepth 20000 in
theorem ggX12_parts_X12_takeSpan : GoodIn wsX12_parts wsX12_takeSpan := goodIn_r _ [16, 7, 6, 17, 18, 19, 20, 21, 22, 15, 23, 24, 25, 26, 27, 28, 29, 30, 31, 32, 33, 34, 35, 36, 37, 38, 39, 40, 41, 42, 43, 44, 45, 46, 47, 48, 49, 50, 51, 52, 53, 54, 55, 56, 57, 58, 59, 60, 61, 62, 63, 64, 65, 66, 67, 68, 69, 70, 93, 94, 95, 96, 97, 98, 99, 100, 101, 102, 103, 104, 105, 106, 107, 108, 109, 110, 111, 112, 113, 114, 115, 116, 117, 118, 119, 120, 121, 122, 123, 124, 125, 126, 127, 128, 129, 130, 131, 132] rfl (by decide +kernel)
set_option maxRecDepth 20000 in
theorem gX12_parts_X12_takeSpan : GoodIn wsX12_parts (wsV RX12 199 RX12 yX12_takeSpan wsX12_takeSpan) := goodIn_app (goodIn_r _ [12, 13, 14, 15] rfl (by decide +kernel)) ggX12_parts_X12_takeSpan
theorem dX12_parts_271 : decode cX12_parts 271 = .ok (.invokevirtual 199, 3) := by decide +kernel
theorem dX12_parts_274 : decode cX12_parts 274 = .ok (.pop, 1) := by decide +kernel
theorem dX12_parts_275 : decode cX12_parts 275 = .ok (.iconst 0, 1) := by decide +kernel
theorem dX12_parts_276 : decode cX12_parts 276 = .ok (.istore 5, 2) := by decide +kernel
theorem dX12_parts_278 : decode cX12_parts 278 = .ok (.iload 5, 2) := by decide +kernel
theorem dX12_parts_280 : decode cX12_parts 280 = .ok (.aload_n 0, 1) := by decide +kernel
theorem dX12_parts_281 : decode cX12_parts 281 = .ok (.getfield 135, 3) := by decide +kernel
theorem dX12_parts_284 : decode cX12_parts 284 = .ok (.if_icmp .ge 25, 3) := by decide +kernel
theorem dX12_parts_309 : decode cX12_parts 309 = .ok (.iload_n 3, 1) := by decide +kernel
theorem dX12_parts_310 : decode cX12_parts 310 = .ok (.aload_n 0, 1) := by decide +kernel
theorem dX12_parts_311 : decode cX12_parts 311 = .ok (.getfield 135, 3) := by decide +kernel
theorem dX12_parts_314 : decode cX12_parts 314 = .ok (.iadd, 1) := by decide +kernel
theorem dX12_parts_315 : decode cX12_parts 315 = .ok (.istore_n 3, 1) := by decide +kernel
theorem dX12_parts_316 : decode cX12_parts 316 = .ok (.iload_n 3, 1) := by decide +kernel
theorem dX12_parts_317 : decode cX12_parts 317 = .ok (.sipush 300, 3) := by decide +kernel
theorem dX12_parts_320 : decode cX12_parts 320 = .ok (.if_icmp .le 5, 3) := by decide +kernel
theorem dX12_parts_325 : decode cX12_parts 325 = .ok (.aload_n 0, 1) := by decide +kernel
theorem dX12_parts_326 : decode cX12_parts 326 = .ok (.getfield 76, 3) := by decide +kernel
theorem dX12_parts_329 : decode cX12_parts 329 = .ok (.iload 4, 2) := by decide +kernel
theorem dX12_parts_331 : decode cX12_parts 331 = .ok (.iaload, 1) := by decide +kernel
theorem dX12_parts_332 : decode cX12_parts 332 = .ok (.istore 4, 2) := by decide +kernel
theorem dX12_parts_334 : decode cX12_parts 334 = .ok (.goto (-86), 3) := by decide +kernel
theorem dX12_parts_323 : decode cX12_parts 323 = .ok (.iconst (-1), 1) := by decide +kernel
theorem dX12_parts_324 : decode cX12_parts 324 = .ok (.ireturn, 1) := by decide +kernel
theorem dX12_parts_287 : decode cX12_parts 287 = .ok (.aload_n 0, 1) := by decide +kernel
theorem dX12_parts_288 : decode cX12_parts 288 = .ok (.getfield 82, 3) := by decide +kernel
theorem dX12_parts_291 : decode cX12_parts 291 = .ok (.iload_n 3, 1) := by decide +kernel
theorem dX12_parts_292 : decode cX12_parts 292 = .ok (.iload 5, 2) := by decide +kernel
theorem dX12_parts_294 : decode cX12_parts 294 = .ok (.iadd, 1) := by decide +kernel
theorem dX12_parts_295 : decode cX12_parts 295 = .ok (.aload_n 0, 1) := by decide +kernel
theorem dX12_parts_296 : decode cX12_parts 296 = .ok (.getfield 64, 3) := by decide +kernel
theorem dX12_parts_299 : decode cX12_parts 299 = .ok (.iload 5, 2) := by decide +kernel
theorem dX12_parts_301 : decode cX12_parts 301 = .ok (.iaload, 1) := by decide +kernel
theorem dX12_parts_302 : decode cX12_parts 302 = .ok (.iastore, 1) := by decide +kernel
theorem dX12_parts_303 : decode cX12_parts 303 = .ok (.iinc 5 1, 3) := by decide +kernel
theorem dX12_parts_306 : decode cX12_parts 306 = .ok (.goto (-28), 3) := by decide +kernel
theorem dX12_parts_49 : decode cX12_parts 49 = .ok (.aload_n 0, 1) := by decide +kernel
theorem dX12_parts_50 : decode cX12_parts 50 = .ok (.getfield 73, 3) := by decide +kernel
theorem dX12_parts_53 : decode cX12_parts 53 = .ok (.iload_n 3, 1) := by decide +kernel
theorem dX12_parts_54 : decode cX12_parts 54 = .ok (.iconst 0, 1) := by decide +kernel
theorem dX12_parts_55 : decode cX12_parts 55 = .ok (.iastore, 1) := by decide +kernel
theorem dX12_parts_56 : decode cX12_parts 56 = .ok (.iload_n 2, 1) := by decide +kernel
theorem dX12_parts_57 : decode cX12_parts 57 = .ok (.istore 4, 2) := by decide +kernel
theorem dX12_parts_59 : decode cX12_parts 59 = .ok (.iload 4, 2) := by decide +kernel
theorem dX12_parts_61 : decode cX12_parts 61 = .ok (.iload_n 3, 1) := by decide +kernel
theorem dX12_parts_62 : decode cX12_parts 62 = .ok (.if_icmp .le 175, 3) := by decide +kernel
theorem dX12_parts_237 : decode cX12_parts 237 = .ok (.iinc 3 (-1), 3) := by decide +kernel
theorem dX12_parts_240 : decode cX12_parts 240 = .ok (.goto (-195), 3) := by decide +kernel
theorem dX12_parts_65 : decode cX12_parts 65 = .ok (.iconst (-1), 1) := by decide +kernel
theorem dX12_parts_66 : decode cX12_parts 66 = .ok (.istore 5, 2) := by decide +kernel
theorem dX12_parts_68 : decode cX12_parts 68 = .ok (.iload 5, 2) := by decide +kernel
theorem dX12_parts_70 : decode cX12_parts 70 = .ok (.aload_n 0, 1) := by decide +kernel
theorem dX12_parts_71 : decode cX12_parts 71 = .ok (.getfield 161, 3) := by decide +kernel
theorem dX12_parts_74 : decode cX12_parts 74 = .ok (.if_icmp .ge 157, 3) := by decide +kernel
theorem dX12_parts_231 : decode cX12_parts 231 = .ok (.iinc 4 (-1), 3) := by decide +kernel
theorem dX12_parts_234 : decode cX12_parts 234 = .ok (.goto (-175), 3) := by decide +kernel
theorem dX12_parts_77 : decode cX12_parts 77 = .ok (.aload_n 0, 1) := by decide +kernel
theorem dX12_parts_78 : decode cX12_parts 78 = .ok (.iload_n 3, 1) := by decide +kernel
theorem dX12_parts_79 : decode cX12_parts 79 = .ok (.iload 4, 2) := by decide +kernel
theorem dX12_parts_81 : decode cX12_parts 81 = .ok (.iload 5, 2) := by decide +kernel
theorem dX12_parts_83 : decode cX12_parts 83 = .ok (.invokevirtual 199, 3) := by decide +kernel
theorem dX12_parts_86 : decode cX12_parts 86 = .ok (.ifCond .ne 6, 3) := by decide +kernel
theorem dX12_parts_92 : decode cX12_parts 92 = .ok (.aload_n 0, 1) := by decide +kernel
theorem dX12_parts_93 : decode cX12_parts 93 = .ok (.aload_n 0, 1) := by decide +kernel
theorem dX12_parts_94 : decode cX12_parts 94 = .ok (.getfield 64, 3) := by decide +kernel
theorem dX12_parts_97 : decode cX12_parts 97 = .ok (.iconst 0, 1) := by decide +kernel
theorem dX12_parts_98 : decode cX12_parts 98 = .ok (.aload_n 0, 1) := by decide +kernel
theorem dX12_parts_99 : decode cX12_parts 99 = .ok (.getfield 135, 3) := by decide +kernel
set_option maxRecDepth 20000 in
theorem ggX12_parts_X12_costOf_ : GoodIn wsX12_parts wsX12_costOf_ := goodIn_r _ [74, 75, 76, 77, 15, 78, 79, 80, 81, 82, 83, 84, 85, 93, 94, 95, 96, 97, 98, 99, 100, 101, 102, 103, 104, 105, 106, 107, 108, 109, 110, 111, 112, 113, 114, 115, 116, 117, 118, 119, 120, 121, 122, 123, 124, 125, 126, 127, 128, 129, 130, 131, 132] rfl (by decide +kernel)
set_option maxRecDepth 20000 in
theorem gX12_parts_X12_costOf_ : GoodIn wsX12_parts (wsV RX12 189 RX12 yX12_costOf_ wsX12_costOf_) := goodIn_app (goodIn_r _ [71, 72, 73, 15] rfl (by decide +kernel)) ggX12_parts_X12_costOf_
theorem dX12_parts_102 : decode cX12_parts 102 = .ok (.invokevirtual 189, 3) := by decide +kernel
theorem dX12_parts_105 : decode cX12_parts 105 = .ok (.iload 4, 2) := by decide +kernel
theorem dX12_parts_107 : decode cX12_parts 107 = .ok (.iload_n 2, 1) := by decide +kernel
theorem dX12_parts_108 : decode cX12_parts 108 = .ok (.if_icmp .ge 15, 3) := by decide +kernel
theorem dX12_parts_123 : decode cX12_parts 123 = .ok (.iconst 0, 1) := by decide +kernel
theorem dX12_parts_124 : decode cX12_parts 124 = .ok (.iadd, 1) := by decide +kernel
theorem dX12_parts_125 : decode cX12_parts 125 = .ok (.istore 6, 2) := by decide +kernel
theorem dX12_parts_127 : decode cX12_parts 127 = .ok (.iconst 1, 1) := by decide +kernel
theorem dX12_parts_128 : decode cX12_parts 128 = .ok (.iload 4, 2) := by decide +kernel
theorem dX12_parts_130 : decode cX12_parts 130 = .ok (.iload_n 2, 1) := by decide +kernel
theorem dX12_parts_131 : decode cX12_parts 131 = .ok (.if_icmp .ge 13, 3) := by decide +kernel
theorem dX12_parts_144 : decode cX12_parts 144 = .ok (.iconst 0, 1) := by decide +kernel
theorem dX12_parts_145 : decode cX12_parts 145 = .ok (.iadd, 1) := by decide +kernel
theorem dX12_parts_146 : decode cX12_parts 146 = .ok (.istore 7, 2) := by decide +kernel
theorem dX12_parts_148 : decode cX12_parts 148 = .ok (.aload_n 0, 1) := by decide +kernel
theorem dX12_parts_149 : decode cX12_parts 149 = .ok (.getfield 73, 3) := by decide +kernel
theorem dX12_parts_152 : decode cX12_parts 152 = .ok (.iload_n 3, 1) := by decide +kernel
theorem dX12_parts_153 : decode cX12_parts 153 = .ok (.iaload, 1) := by decide +kernel
theorem dX12_parts_154 : decode cX12_parts 154 = .ok (.ifCond .le 39, 3) := by decide +kernel
theorem dX12_parts_193 : decode cX12_parts 193 = .ok (.aload_n 0, 1) := by decide +kernel
theorem dX12_parts_194 : decode cX12_parts 194 = .ok (.getfield 70, 3) := by decide +kernel
theorem dX12_parts_197 : decode cX12_parts 197 = .ok (.iload_n 3, 1) := by decide +kernel
theorem dX12_parts_198 : decode cX12_parts 198 = .ok (.iload 6, 2) := by decide +kernel
theorem dX12_parts_200 : decode cX12_parts 200 = .ok (.iastore, 1) := by decide +kernel
theorem dX12_parts_201 : decode cX12_parts 201 = .ok (.aload_n 0, 1) := by decide +kernel
theorem dX12_parts_202 : decode cX12_parts 202 = .ok (.getfield 73, 3) := by decide +kernel
theorem dX12_parts_205 : decode cX12_parts 205 = .ok (.iload_n 3, 1) := by decide +kernel
theorem dX12_parts_206 : decode cX12_parts 206 = .ok (.iload 7, 2) := by decide +kernel
theorem dX12_parts_208 : decode cX12_parts 208 = .ok (.iastore, 1) := by decide +kernel
theorem dX12_parts_209 : decode cX12_parts 209 = .ok (.aload_n 0, 1) := by decide +kernel
theorem dX12_parts_210 : decode cX12_parts 210 = .ok (.getfield 76, 3) := by decide +kernel
theorem dX12_parts_213 : decode cX12_parts 213 = .ok (.iload_n 3, 1) := by decide +kernel
theorem dX12_parts_214 : decode cX12_parts 214 = .ok (.iload 4, 2) := by decide +kernel
theorem dX12_parts_216 : decode cX12_parts 216 = .ok (.iastore, 1) := by decide +kernel
theorem dX12_parts_217 : decode cX12_parts 217 = .ok (.aload_n 0, 1) := by decide +kernel
theorem dX12_parts_218 : decode cX12_parts 218 = .ok (.getfield 79, 3) := by decide +kernel
theorem dX12_parts_221 : decode cX12_parts 221 = .ok (.iload_n 3, 1) := by decide +kernel
theorem dX12_parts_222 : decode cX12_parts 222 = .ok (.iload 5, 2) := by decide +kernel
theorem dX12_parts_224 : decode cX12_parts 224 = .ok (.iastore, 1) := by decide +kernel
theorem dX12_parts_225 : decode cX12_parts 225 = .ok (.iinc 5 1, 3) := by decide +kernel
theorem dX12_parts_228 : decode cX12_parts 228 = .ok (.goto (-160), 3) := by decide +kernel
theorem dX12_parts_157 : decode cX12_parts 157 = .ok (.iload 6, 2) := by decide +kernel
theorem dX12_parts_159 : decode cX12_parts 159 = .ok (.aload_n 0, 1) := by decide +kernel
theorem dX12_parts_160 : decode cX12_parts 160 = .ok (.getfield 70, 3) := by decide +kernel
theorem dX12_parts_163 : decode cX12_parts 163 = .ok (.iload_n 3, 1) := by decide +kernel
theorem dX12_parts_164 : decode cX12_parts 164 = .ok (.iaload, 1) := by decide +kernel
theorem dX12_parts_165 : decode cX12_parts 165 = .ok (.if_icmp .gt 60, 3) := by decide +kernel
theorem dX12_parts_168 : decode cX12_parts 168 = .ok (.iload 6, 2) := by decide +kernel
theorem dX12_parts_170 : decode cX12_parts 170 = .ok (.aload_n 0, 1) := by decide +kernel
theorem dX12_parts_171 : decode cX12_parts 171 = .ok (.getfield 70, 3) := by decide +kernel
theorem dX12_parts_174 : decode cX12_parts 174 = .ok (.iload_n 3, 1) := by decide +kernel
theorem dX12_parts_175 : decode cX12_parts 175 = .ok (.iaload, 1) := by decide +kernel
theorem dX12_parts_176 : decode cX12_parts 176 = .ok (.if_icmp .ne 17, 3) := by decide +kernel
theorem dX12_parts_179 : decode cX12_parts 179 = .ok (.iload 7, 2) := by decide +kernel
theorem dX12_parts_181 : decode cX12_parts 181 = .ok (.aload_n 0, 1) := by decide +kernel
theorem dX12_parts_182 : decode cX12_parts 182 = .ok (.getfield 73, 3) := by decide +kernel
theorem dX12_parts_185 : decode cX12_parts 185 = .ok (.iload_n 3, 1) := by decide +kernel
theorem dX12_parts_186 : decode cX12_parts 186 = .ok (.iaload, 1) := by decide +kernel
theorem dX12_parts_187 : decode cX12_parts 187 = .ok (.if_icmp .lt 6, 3) := by decide +kernel
theorem dX12_parts_190 : decode cX12_parts 190 = .ok (.goto 35, 3) := by decide +kernel
theorem dX12_parts_111 : decode cX12_parts 111 = .ok (.iload_n 1, 1) := by decide +kernel
theorem dX12_parts_112 : decode cX12_parts 112 = .ok (.aload_n 0, 1) := by decide +kernel
theorem dX12_parts_113 : decode cX12_parts 113 = .ok (.getfield 70, 3) := by decide +kernel
theorem dX12_parts_116 : decode cX12_parts 116 = .ok (.iload 4, 2) := by decide +kernel
theorem dX12_parts_118 : decode cX12_parts 118 = .ok (.iaload, 1) := by decide +kernel
theorem dX12_parts_119 : decode cX12_parts 119 = .ok (.iadd, 1) := by decide +kernel
theorem dX12_parts_120 : decode cX12_parts 120 = .ok (.goto 4, 3) := by decide +kernel
theorem dX12_parts_134 : decode cX12_parts 134 = .ok (.aload_n 0, 1) := by decide +kernel
theorem dX12_parts_135 : decode cX12_parts 135 = .ok (.getfield 73, 3) := by decide +kernel
theorem dX12_parts_138 : decode cX12_parts 138 = .ok (.iload 4, 2) := by decide +kernel
theorem dX12_parts_140 : decode cX12_parts 140 = .ok (.iaload, 1) := by decide +kernel
theorem dX12_parts_141 : decode cX12_parts 141 = .ok (.goto 4, 3) := by decide +kernel
theorem dX12_parts_89 : decode cX12_parts 89 = .ok (.goto 136, 3) := by decide +kernel
