/-! 66.a.rows -/
section
set_option maxRecDepth 100000 in
theorem dA401_cL_law : kDec cL_law [(164, .aload_n 1, 1), (165, .aload_n 0, 1), (166, .iload 4, 2), (168, .iconst 1, 1), (169, .iadd, 1), (170, .iaload, 1), (171, .aload_n 0, 1), (172, .iload 4, 2), (174, .iconst 2, 1), (175, .iadd, 1), (176, .iaload, 1), (177, .aload_n 0, 1), (178, .iload 4, 2), (180, .iconst 3, 1), (181, .iadd, 1), (182, .iaload, 1), (183, .aload_n 0, 1), (184, .iload 4, 2), (186, .iconst 4, 1), (187, .iadd, 1), (188, .iaload, 1), (189, .aload_n 0, 1), (190, .iload 4, 2), (192, .iconst 5, 1)] = true := by decide +kernel
theorem dL_law_164 : decode cL_law 164 = .ok (.aload_n 1, 1) := kDec_at dA401_cL_law 0 rfl
theorem dL_law_165 : decode cL_law 165 = .ok (.aload_n 0, 1) := kDec_at dA401_cL_law 1 rfl
theorem dL_law_166 : decode cL_law 166 = .ok (.iload 4, 2) := kDec_at dA401_cL_law 2 rfl
theorem dL_law_168 : decode cL_law 168 = .ok (.iconst 1, 1) := kDec_at dA401_cL_law 3 rfl
theorem dL_law_169 : decode cL_law 169 = .ok (.iadd, 1) := kDec_at dA401_cL_law 4 rfl
theorem dL_law_170 : decode cL_law 170 = .ok (.iaload, 1) := kDec_at dA401_cL_law 5 rfl
theorem dL_law_171 : decode cL_law 171 = .ok (.aload_n 0, 1) := kDec_at dA401_cL_law 6 rfl
theorem dL_law_172 : decode cL_law 172 = .ok (.iload 4, 2) := kDec_at dA401_cL_law 7 rfl
theorem dL_law_174 : decode cL_law 174 = .ok (.iconst 2, 1) := kDec_at dA401_cL_law 8 rfl
theorem dL_law_175 : decode cL_law 175 = .ok (.iadd, 1) := kDec_at dA401_cL_law 9 rfl
theorem dL_law_176 : decode cL_law 176 = .ok (.iaload, 1) := kDec_at dA401_cL_law 10 rfl
theorem dL_law_177 : decode cL_law 177 = .ok (.aload_n 0, 1) := kDec_at dA401_cL_law 11 rfl
theorem dL_law_178 : decode cL_law 178 = .ok (.iload 4, 2) := kDec_at dA401_cL_law 12 rfl
theorem dL_law_180 : decode cL_law 180 = .ok (.iconst 3, 1) := kDec_at dA401_cL_law 13 rfl
theorem dL_law_181 : decode cL_law 181 = .ok (.iadd, 1) := kDec_at dA401_cL_law 14 rfl
theorem dL_law_182 : decode cL_law 182 = .ok (.iaload, 1) := kDec_at dA401_cL_law 15 rfl
theorem dL_law_183 : decode cL_law 183 = .ok (.aload_n 0, 1) := kDec_at dA401_cL_law 16 rfl
theorem dL_law_184 : decode cL_law 184 = .ok (.iload 4, 2) := kDec_at dA401_cL_law 17 rfl
theorem dL_law_186 : decode cL_law 186 = .ok (.iconst 4, 1) := kDec_at dA401_cL_law 18 rfl
theorem dL_law_187 : decode cL_law 187 = .ok (.iadd, 1) := kDec_at dA401_cL_law 19 rfl
theorem dL_law_188 : decode cL_law 188 = .ok (.iaload, 1) := kDec_at dA401_cL_law 20 rfl
theorem dL_law_189 : decode cL_law 189 = .ok (.aload_n 0, 1) := kDec_at dA401_cL_law 21 rfl
theorem dL_law_190 : decode cL_law 190 = .ok (.iload 4, 2) := kDec_at dA401_cL_law 22 rfl
theorem dL_law_192 : decode cL_law 192 = .ok (.iconst 5, 1) := kDec_at dA401_cL_law 23 rfl
set_option maxRecDepth 100000 in
theorem dA402_cL_law : kDec cL_law [(193, .iadd, 1), (194, .iaload, 1), (195, .invokevirtual 19, 3), (198, .pop, 1), (199, .aload_n 2, 1), (200, .aload_n 0, 1), (201, .iload 4, 2), (203, .iconst 1, 1), (204, .iadd, 1), (205, .iaload, 1), (206, .aload_n 0, 1), (207, .iload 4, 2), (209, .iconst 2, 1), (210, .iadd, 1), (211, .iaload, 1), (212, .aload_n 0, 1), (213, .iload 4, 2), (215, .iconst 3, 1), (216, .iadd, 1), (217, .iaload, 1), (218, .aload_n 0, 1), (219, .iload 4, 2), (221, .iconst 4, 1), (222, .iadd, 1)] = true := by decide +kernel
theorem dL_law_193 : decode cL_law 193 = .ok (.iadd, 1) := kDec_at dA402_cL_law 0 rfl
theorem dL_law_194 : decode cL_law 194 = .ok (.iaload, 1) := kDec_at dA402_cL_law 1 rfl
theorem dL_law_195 : decode cL_law 195 = .ok (.invokevirtual 19, 3) := kDec_at dA402_cL_law 2 rfl
theorem dL_law_198 : decode cL_law 198 = .ok (.pop, 1) := kDec_at dA402_cL_law 3 rfl
theorem dL_law_199 : decode cL_law 199 = .ok (.aload_n 2, 1) := kDec_at dA402_cL_law 4 rfl
theorem dL_law_200 : decode cL_law 200 = .ok (.aload_n 0, 1) := kDec_at dA402_cL_law 5 rfl
theorem dL_law_201 : decode cL_law 201 = .ok (.iload 4, 2) := kDec_at dA402_cL_law 6 rfl
theorem dL_law_203 : decode cL_law 203 = .ok (.iconst 1, 1) := kDec_at dA402_cL_law 7 rfl
theorem dL_law_204 : decode cL_law 204 = .ok (.iadd, 1) := kDec_at dA402_cL_law 8 rfl
theorem dL_law_205 : decode cL_law 205 = .ok (.iaload, 1) := kDec_at dA402_cL_law 9 rfl
theorem dL_law_206 : decode cL_law 206 = .ok (.aload_n 0, 1) := kDec_at dA402_cL_law 10 rfl
theorem dL_law_207 : decode cL_law 207 = .ok (.iload 4, 2) := kDec_at dA402_cL_law 11 rfl
theorem dL_law_209 : decode cL_law 209 = .ok (.iconst 2, 1) := kDec_at dA402_cL_law 12 rfl
theorem dL_law_210 : decode cL_law 210 = .ok (.iadd, 1) := kDec_at dA402_cL_law 13 rfl
theorem dL_law_211 : decode cL_law 211 = .ok (.iaload, 1) := kDec_at dA402_cL_law 14 rfl
theorem dL_law_212 : decode cL_law 212 = .ok (.aload_n 0, 1) := kDec_at dA402_cL_law 15 rfl
theorem dL_law_213 : decode cL_law 213 = .ok (.iload 4, 2) := kDec_at dA402_cL_law 16 rfl
theorem dL_law_215 : decode cL_law 215 = .ok (.iconst 3, 1) := kDec_at dA402_cL_law 17 rfl
theorem dL_law_216 : decode cL_law 216 = .ok (.iadd, 1) := kDec_at dA402_cL_law 18 rfl
theorem dL_law_217 : decode cL_law 217 = .ok (.iaload, 1) := kDec_at dA402_cL_law 19 rfl
theorem dL_law_218 : decode cL_law 218 = .ok (.aload_n 0, 1) := kDec_at dA402_cL_law 20 rfl
theorem dL_law_219 : decode cL_law 219 = .ok (.iload 4, 2) := kDec_at dA402_cL_law 21 rfl
theorem dL_law_221 : decode cL_law 221 = .ok (.iconst 4, 1) := kDec_at dA402_cL_law 22 rfl
theorem dL_law_222 : decode cL_law 222 = .ok (.iadd, 1) := kDec_at dA402_cL_law 23 rfl
set_option maxRecDepth 100000 in
theorem dA403_cL_law : kDec cL_law [(223, .iaload, 1), (224, .aload_n 0, 1), (225, .iload 4, 2), (227, .iconst 5, 1), (228, .iadd, 1), (229, .iaload, 1), (230, .invokevirtual 23, 3), (233, .pop, 1), (234, .goto 788, 3), (237, .aload_n 1, 1), (238, .aload_n 0, 1), (239, .iload 4, 2), (241, .iconst 1, 1), (242, .iadd, 1), (243, .iaload, 1), (244, .invokevirtual 24, 3), (247, .pop, 1), (248, .aload_n 2, 1), (249, .aload_n 0, 1), (250, .iload 4, 2), (252, .iconst 1, 1), (253, .iadd, 1), (254, .iaload, 1), (255, .invokevirtual 28, 3)] = true := by decide +kernel
theorem dL_law_223 : decode cL_law 223 = .ok (.iaload, 1) := kDec_at dA403_cL_law 0 rfl
theorem dL_law_224 : decode cL_law 224 = .ok (.aload_n 0, 1) := kDec_at dA403_cL_law 1 rfl
theorem dL_law_225 : decode cL_law 225 = .ok (.iload 4, 2) := kDec_at dA403_cL_law 2 rfl
theorem dL_law_227 : decode cL_law 227 = .ok (.iconst 5, 1) := kDec_at dA403_cL_law 3 rfl
theorem dL_law_228 : decode cL_law 228 = .ok (.iadd, 1) := kDec_at dA403_cL_law 4 rfl
theorem dL_law_229 : decode cL_law 229 = .ok (.iaload, 1) := kDec_at dA403_cL_law 5 rfl
theorem dL_law_230 : decode cL_law 230 = .ok (.invokevirtual 23, 3) := kDec_at dA403_cL_law 6 rfl
theorem dL_law_233 : decode cL_law 233 = .ok (.pop, 1) := kDec_at dA403_cL_law 7 rfl
theorem dL_law_234 : decode cL_law 234 = .ok (.goto 788, 3) := kDec_at dA403_cL_law 8 rfl
theorem dL_law_237 : decode cL_law 237 = .ok (.aload_n 1, 1) := kDec_at dA403_cL_law 9 rfl
theorem dL_law_238 : decode cL_law 238 = .ok (.aload_n 0, 1) := kDec_at dA403_cL_law 10 rfl
theorem dL_law_239 : decode cL_law 239 = .ok (.iload 4, 2) := kDec_at dA403_cL_law 11 rfl
theorem dL_law_241 : decode cL_law 241 = .ok (.iconst 1, 1) := kDec_at dA403_cL_law 12 rfl
theorem dL_law_242 : decode cL_law 242 = .ok (.iadd, 1) := kDec_at dA403_cL_law 13 rfl
theorem dL_law_243 : decode cL_law 243 = .ok (.iaload, 1) := kDec_at dA403_cL_law 14 rfl
theorem dL_law_244 : decode cL_law 244 = .ok (.invokevirtual 24, 3) := kDec_at dA403_cL_law 15 rfl
theorem dL_law_247 : decode cL_law 247 = .ok (.pop, 1) := kDec_at dA403_cL_law 16 rfl
theorem dL_law_248 : decode cL_law 248 = .ok (.aload_n 2, 1) := kDec_at dA403_cL_law 17 rfl
theorem dL_law_249 : decode cL_law 249 = .ok (.aload_n 0, 1) := kDec_at dA403_cL_law 18 rfl
theorem dL_law_250 : decode cL_law 250 = .ok (.iload 4, 2) := kDec_at dA403_cL_law 19 rfl
theorem dL_law_252 : decode cL_law 252 = .ok (.iconst 1, 1) := kDec_at dA403_cL_law 20 rfl
theorem dL_law_253 : decode cL_law 253 = .ok (.iadd, 1) := kDec_at dA403_cL_law 21 rfl
theorem dL_law_254 : decode cL_law 254 = .ok (.iaload, 1) := kDec_at dA403_cL_law 22 rfl
theorem dL_law_255 : decode cL_law 255 = .ok (.invokevirtual 28, 3) := kDec_at dA403_cL_law 23 rfl
set_option maxRecDepth 100000 in
theorem dA404_cL_law : kDec cL_law [(258, .pop, 1), (259, .goto 763, 3), (262, .aload_n 1, 1), (263, .invokevirtual 29, 3), (266, .pop, 1), (267, .aload_n 2, 1), (268, .invokevirtual 33, 3), (271, .pop, 1), (272, .goto 750, 3), (275, .aload_n 1, 1), (276, .aload_n 0, 1), (277, .iload 4, 2), (279, .iconst 1, 1), (280, .iadd, 1), (281, .iaload, 1), (282, .invokevirtual 34, 3), (285, .pop, 1), (286, .aload_n 2, 1), (287, .aload_n 0, 1), (288, .iload 4, 2), (290, .iconst 1, 1), (291, .iadd, 1), (292, .iaload, 1), (293, .invokevirtual 37, 3)] = true := by decide +kernel
theorem dL_law_258 : decode cL_law 258 = .ok (.pop, 1) := kDec_at dA404_cL_law 0 rfl
theorem dL_law_259 : decode cL_law 259 = .ok (.goto 763, 3) := kDec_at dA404_cL_law 1 rfl
theorem dL_law_262 : decode cL_law 262 = .ok (.aload_n 1, 1) := kDec_at dA404_cL_law 2 rfl
theorem dL_law_263 : decode cL_law 263 = .ok (.invokevirtual 29, 3) := kDec_at dA404_cL_law 3 rfl
theorem dL_law_266 : decode cL_law 266 = .ok (.pop, 1) := kDec_at dA404_cL_law 4 rfl
theorem dL_law_267 : decode cL_law 267 = .ok (.aload_n 2, 1) := kDec_at dA404_cL_law 5 rfl
theorem dL_law_268 : decode cL_law 268 = .ok (.invokevirtual 33, 3) := kDec_at dA404_cL_law 6 rfl
theorem dL_law_271 : decode cL_law 271 = .ok (.pop, 1) := kDec_at dA404_cL_law 7 rfl
theorem dL_law_272 : decode cL_law 272 = .ok (.goto 750, 3) := kDec_at dA404_cL_law 8 rfl
theorem dL_law_275 : decode cL_law 275 = .ok (.aload_n 1, 1) := kDec_at dA404_cL_law 9 rfl
theorem dL_law_276 : decode cL_law 276 = .ok (.aload_n 0, 1) := kDec_at dA404_cL_law 10 rfl
theorem dL_law_277 : decode cL_law 277 = .ok (.iload 4, 2) := kDec_at dA404_cL_law 11 rfl
theorem dL_law_279 : decode cL_law 279 = .ok (.iconst 1, 1) := kDec_at dA404_cL_law 12 rfl
theorem dL_law_280 : decode cL_law 280 = .ok (.iadd, 1) := kDec_at dA404_cL_law 13 rfl
theorem dL_law_281 : decode cL_law 281 = .ok (.iaload, 1) := kDec_at dA404_cL_law 14 rfl
theorem dL_law_282 : decode cL_law 282 = .ok (.invokevirtual 34, 3) := kDec_at dA404_cL_law 15 rfl
theorem dL_law_285 : decode cL_law 285 = .ok (.pop, 1) := kDec_at dA404_cL_law 16 rfl
theorem dL_law_286 : decode cL_law 286 = .ok (.aload_n 2, 1) := kDec_at dA404_cL_law 17 rfl
theorem dL_law_287 : decode cL_law 287 = .ok (.aload_n 0, 1) := kDec_at dA404_cL_law 18 rfl
theorem dL_law_288 : decode cL_law 288 = .ok (.iload 4, 2) := kDec_at dA404_cL_law 19 rfl
theorem dL_law_290 : decode cL_law 290 = .ok (.iconst 1, 1) := kDec_at dA404_cL_law 20 rfl
theorem dL_law_291 : decode cL_law 291 = .ok (.iadd, 1) := kDec_at dA404_cL_law 21 rfl
theorem dL_law_292 : decode cL_law 292 = .ok (.iaload, 1) := kDec_at dA404_cL_law 22 rfl
theorem dL_law_293 : decode cL_law 293 = .ok (.invokevirtual 37, 3) := kDec_at dA404_cL_law 23 rfl
set_option maxRecDepth 100000 in
theorem dA405_cL_law : kDec cL_law [(296, .pop, 1), (297, .goto 725, 3), (300, .aload_n 1, 1), (301, .aload_n 0, 1), (302, .iload 4, 2), (304, .iconst 1, 1), (305, .iadd, 1), (306, .iaload, 1), (307, .aload_n 0, 1), (308, .iload 4, 2), (310, .iconst 2, 1), (311, .iadd, 1), (312, .iaload, 1), (313, .aload_n 0, 1), (314, .iload 4, 2), (316, .iconst 3, 1), (317, .iadd, 1), (318, .iaload, 1), (319, .aload_n 0, 1), (320, .iload 4, 2), (322, .iconst 4, 1), (323, .iadd, 1), (324, .iaload, 1), (325, .aload_n 0, 1)] = true := by decide +kernel
theorem dL_law_296 : decode cL_law 296 = .ok (.pop, 1) := kDec_at dA405_cL_law 0 rfl
theorem dL_law_297 : decode cL_law 297 = .ok (.goto 725, 3) := kDec_at dA405_cL_law 1 rfl
theorem dL_law_300 : decode cL_law 300 = .ok (.aload_n 1, 1) := kDec_at dA405_cL_law 2 rfl
theorem dL_law_301 : decode cL_law 301 = .ok (.aload_n 0, 1) := kDec_at dA405_cL_law 3 rfl
theorem dL_law_302 : decode cL_law 302 = .ok (.iload 4, 2) := kDec_at dA405_cL_law 4 rfl
theorem dL_law_304 : decode cL_law 304 = .ok (.iconst 1, 1) := kDec_at dA405_cL_law 5 rfl
theorem dL_law_305 : decode cL_law 305 = .ok (.iadd, 1) := kDec_at dA405_cL_law 6 rfl
theorem dL_law_306 : decode cL_law 306 = .ok (.iaload, 1) := kDec_at dA405_cL_law 7 rfl
theorem dL_law_307 : decode cL_law 307 = .ok (.aload_n 0, 1) := kDec_at dA405_cL_law 8 rfl
theorem dL_law_308 : decode cL_law 308 = .ok (.iload 4, 2) := kDec_at dA405_cL_law 9 rfl
theorem dL_law_310 : decode cL_law 310 = .ok (.iconst 2, 1) := kDec_at dA405_cL_law 10 rfl
theorem dL_law_311 : decode cL_law 311 = .ok (.iadd, 1) := kDec_at dA405_cL_law 11 rfl
theorem dL_law_312 : decode cL_law 312 = .ok (.iaload, 1) := kDec_at dA405_cL_law 12 rfl
theorem dL_law_313 : decode cL_law 313 = .ok (.aload_n 0, 1) := kDec_at dA405_cL_law 13 rfl
theorem dL_law_314 : decode cL_law 314 = .ok (.iload 4, 2) := kDec_at dA405_cL_law 14 rfl
theorem dL_law_316 : decode cL_law 316 = .ok (.iconst 3, 1) := kDec_at dA405_cL_law 15 rfl
theorem dL_law_317 : decode cL_law 317 = .ok (.iadd, 1) := kDec_at dA405_cL_law 16 rfl
theorem dL_law_318 : decode cL_law 318 = .ok (.iaload, 1) := kDec_at dA405_cL_law 17 rfl
theorem dL_law_319 : decode cL_law 319 = .ok (.aload_n 0, 1) := kDec_at dA405_cL_law 18 rfl
theorem dL_law_320 : decode cL_law 320 = .ok (.iload 4, 2) := kDec_at dA405_cL_law 19 rfl
theorem dL_law_322 : decode cL_law 322 = .ok (.iconst 4, 1) := kDec_at dA405_cL_law 20 rfl
theorem dL_law_323 : decode cL_law 323 = .ok (.iadd, 1) := kDec_at dA405_cL_law 21 rfl
theorem dL_law_324 : decode cL_law 324 = .ok (.iaload, 1) := kDec_at dA405_cL_law 22 rfl
theorem dL_law_325 : decode cL_law 325 = .ok (.aload_n 0, 1) := kDec_at dA405_cL_law 23 rfl
set_option maxRecDepth 100000 in
theorem dA406_cL_law : kDec cL_law [(326, .iload 4, 2), (328, .iconst 5, 1), (329, .iadd, 1), (330, .iaload, 1), (331, .invokevirtual 38, 3), (334, .pop, 1), (335, .aload_n 2, 1), (336, .aload_n 0, 1), (337, .iload 4, 2), (339, .iconst 1, 1), (340, .iadd, 1), (341, .iaload, 1), (342, .aload_n 0, 1), (343, .iload 4, 2), (345, .iconst 2, 1), (346, .iadd, 1), (347, .iaload, 1), (348, .aload_n 0, 1), (349, .iload 4, 2), (351, .iconst 3, 1), (352, .iadd, 1), (353, .iaload, 1), (354, .aload_n 0, 1), (355, .iload 4, 2)] = true := by decide +kernel
theorem dL_law_326 : decode cL_law 326 = .ok (.iload 4, 2) := kDec_at dA406_cL_law 0 rfl
theorem dL_law_328 : decode cL_law 328 = .ok (.iconst 5, 1) := kDec_at dA406_cL_law 1 rfl
theorem dL_law_329 : decode cL_law 329 = .ok (.iadd, 1) := kDec_at dA406_cL_law 2 rfl
theorem dL_law_330 : decode cL_law 330 = .ok (.iaload, 1) := kDec_at dA406_cL_law 3 rfl
theorem dL_law_331 : decode cL_law 331 = .ok (.invokevirtual 38, 3) := kDec_at dA406_cL_law 4 rfl
theorem dL_law_334 : decode cL_law 334 = .ok (.pop, 1) := kDec_at dA406_cL_law 5 rfl
theorem dL_law_335 : decode cL_law 335 = .ok (.aload_n 2, 1) := kDec_at dA406_cL_law 6 rfl
theorem dL_law_336 : decode cL_law 336 = .ok (.aload_n 0, 1) := kDec_at dA406_cL_law 7 rfl
theorem dL_law_337 : decode cL_law 337 = .ok (.iload 4, 2) := kDec_at dA406_cL_law 8 rfl
theorem dL_law_339 : decode cL_law 339 = .ok (.iconst 1, 1) := kDec_at dA406_cL_law 9 rfl
theorem dL_law_340 : decode cL_law 340 = .ok (.iadd, 1) := kDec_at dA406_cL_law 10 rfl
theorem dL_law_341 : decode cL_law 341 = .ok (.iaload, 1) := kDec_at dA406_cL_law 11 rfl
theorem dL_law_342 : decode cL_law 342 = .ok (.aload_n 0, 1) := kDec_at dA406_cL_law 12 rfl
theorem dL_law_343 : decode cL_law 343 = .ok (.iload 4, 2) := kDec_at dA406_cL_law 13 rfl
theorem dL_law_345 : decode cL_law 345 = .ok (.iconst 2, 1) := kDec_at dA406_cL_law 14 rfl
theorem dL_law_346 : decode cL_law 346 = .ok (.iadd, 1) := kDec_at dA406_cL_law 15 rfl
theorem dL_law_347 : decode cL_law 347 = .ok (.iaload, 1) := kDec_at dA406_cL_law 16 rfl
theorem dL_law_348 : decode cL_law 348 = .ok (.aload_n 0, 1) := kDec_at dA406_cL_law 17 rfl
theorem dL_law_349 : decode cL_law 349 = .ok (.iload 4, 2) := kDec_at dA406_cL_law 18 rfl
theorem dL_law_351 : decode cL_law 351 = .ok (.iconst 3, 1) := kDec_at dA406_cL_law 19 rfl
theorem dL_law_352 : decode cL_law 352 = .ok (.iadd, 1) := kDec_at dA406_cL_law 20 rfl
theorem dL_law_353 : decode cL_law 353 = .ok (.iaload, 1) := kDec_at dA406_cL_law 21 rfl
theorem dL_law_354 : decode cL_law 354 = .ok (.aload_n 0, 1) := kDec_at dA406_cL_law 22 rfl
theorem dL_law_355 : decode cL_law 355 = .ok (.iload 4, 2) := kDec_at dA406_cL_law 23 rfl
set_option maxRecDepth 100000 in
theorem dA407_cL_law : kDec cL_law [(357, .iconst 4, 1), (358, .iadd, 1), (359, .iaload, 1), (360, .aload_n 0, 1), (361, .iload 4, 2), (363, .iconst 5, 1), (364, .iadd, 1), (365, .iaload, 1), (366, .invokevirtual 41, 3), (369, .pop, 1), (370, .goto 652, 3), (373, .aload_n 1, 1), (374, .aload_n 0, 1), (375, .iload 4, 2), (377, .iconst 1, 1), (378, .iadd, 1), (379, .iaload, 1), (380, .invokevirtual 42, 3), (383, .pop, 1), (384, .aload_n 2, 1), (385, .aload_n 0, 1), (386, .iload 4, 2), (388, .iconst 1, 1), (389, .iadd, 1)] = true := by decide +kernel
theorem dL_law_357 : decode cL_law 357 = .ok (.iconst 4, 1) := kDec_at dA407_cL_law 0 rfl
theorem dL_law_358 : decode cL_law 358 = .ok (.iadd, 1) := kDec_at dA407_cL_law 1 rfl
theorem dL_law_359 : decode cL_law 359 = .ok (.iaload, 1) := kDec_at dA407_cL_law 2 rfl
theorem dL_law_360 : decode cL_law 360 = .ok (.aload_n 0, 1) := kDec_at dA407_cL_law 3 rfl
theorem dL_law_361 : decode cL_law 361 = .ok (.iload 4, 2) := kDec_at dA407_cL_law 4 rfl
theorem dL_law_363 : decode cL_law 363 = .ok (.iconst 5, 1) := kDec_at dA407_cL_law 5 rfl
theorem dL_law_364 : decode cL_law 364 = .ok (.iadd, 1) := kDec_at dA407_cL_law 6 rfl
theorem dL_law_365 : decode cL_law 365 = .ok (.iaload, 1) := kDec_at dA407_cL_law 7 rfl
theorem dL_law_366 : decode cL_law 366 = .ok (.invokevirtual 41, 3) := kDec_at dA407_cL_law 8 rfl
theorem dL_law_369 : decode cL_law 369 = .ok (.pop, 1) := kDec_at dA407_cL_law 9 rfl
theorem dL_law_370 : decode cL_law 370 = .ok (.goto 652, 3) := kDec_at dA407_cL_law 10 rfl
theorem dL_law_373 : decode cL_law 373 = .ok (.aload_n 1, 1) := kDec_at dA407_cL_law 11 rfl
theorem dL_law_374 : decode cL_law 374 = .ok (.aload_n 0, 1) := kDec_at dA407_cL_law 12 rfl
theorem dL_law_375 : decode cL_law 375 = .ok (.iload 4, 2) := kDec_at dA407_cL_law 13 rfl
theorem dL_law_377 : decode cL_law 377 = .ok (.iconst 1, 1) := kDec_at dA407_cL_law 14 rfl
theorem dL_law_378 : decode cL_law 378 = .ok (.iadd, 1) := kDec_at dA407_cL_law 15 rfl
theorem dL_law_379 : decode cL_law 379 = .ok (.iaload, 1) := kDec_at dA407_cL_law 16 rfl
theorem dL_law_380 : decode cL_law 380 = .ok (.invokevirtual 42, 3) := kDec_at dA407_cL_law 17 rfl
theorem dL_law_383 : decode cL_law 383 = .ok (.pop, 1) := kDec_at dA407_cL_law 18 rfl
theorem dL_law_384 : decode cL_law 384 = .ok (.aload_n 2, 1) := kDec_at dA407_cL_law 19 rfl
theorem dL_law_385 : decode cL_law 385 = .ok (.aload_n 0, 1) := kDec_at dA407_cL_law 20 rfl
theorem dL_law_386 : decode cL_law 386 = .ok (.iload 4, 2) := kDec_at dA407_cL_law 21 rfl
theorem dL_law_388 : decode cL_law 388 = .ok (.iconst 1, 1) := kDec_at dA407_cL_law 22 rfl
theorem dL_law_389 : decode cL_law 389 = .ok (.iadd, 1) := kDec_at dA407_cL_law 23 rfl
set_option maxRecDepth 100000 in
theorem dA408_cL_law : kDec cL_law [(390, .iaload, 1), (391, .invokevirtual 45, 3), (394, .pop, 1), (395, .goto 627, 3), (398, .aload_n 1, 1), (399, .aload_n 0, 1), (400, .iload 4, 2), (402, .iconst 1, 1), (403, .iadd, 1), (404, .iaload, 1), (405, .invokevirtual 46, 3), (408, .pop, 1), (409, .aload_n 2, 1), (410, .aload_n 0, 1), (411, .iload 4, 2), (413, .iconst 1, 1), (414, .iadd, 1), (415, .iaload, 1), (416, .invokevirtual 49, 3), (419, .pop, 1), (420, .goto 602, 3), (451, .aload_n 1, 1), (452, .aload_n 0, 1), (453, .iload 4, 2)] = true := by decide +kernel
theorem dL_law_390 : decode cL_law 390 = .ok (.iaload, 1) := kDec_at dA408_cL_law 0 rfl
theorem dL_law_391 : decode cL_law 391 = .ok (.invokevirtual 45, 3) := kDec_at dA408_cL_law 1 rfl
theorem dL_law_394 : decode cL_law 394 = .ok (.pop, 1) := kDec_at dA408_cL_law 2 rfl
theorem dL_law_395 : decode cL_law 395 = .ok (.goto 627, 3) := kDec_at dA408_cL_law 3 rfl
theorem dL_law_398 : decode cL_law 398 = .ok (.aload_n 1, 1) := kDec_at dA408_cL_law 4 rfl
theorem dL_law_399 : decode cL_law 399 = .ok (.aload_n 0, 1) := kDec_at dA408_cL_law 5 rfl
theorem dL_law_400 : decode cL_law 400 = .ok (.iload 4, 2) := kDec_at dA408_cL_law 6 rfl
theorem dL_law_402 : decode cL_law 402 = .ok (.iconst 1, 1) := kDec_at dA408_cL_law 7 rfl
theorem dL_law_403 : decode cL_law 403 = .ok (.iadd, 1) := kDec_at dA408_cL_law 8 rfl
theorem dL_law_404 : decode cL_law 404 = .ok (.iaload, 1) := kDec_at dA408_cL_law 9 rfl
theorem dL_law_405 : decode cL_law 405 = .ok (.invokevirtual 46, 3) := kDec_at dA408_cL_law 10 rfl
theorem dL_law_408 : decode cL_law 408 = .ok (.pop, 1) := kDec_at dA408_cL_law 11 rfl
theorem dL_law_409 : decode cL_law 409 = .ok (.aload_n 2, 1) := kDec_at dA408_cL_law 12 rfl
theorem dL_law_410 : decode cL_law 410 = .ok (.aload_n 0, 1) := kDec_at dA408_cL_law 13 rfl
theorem dL_law_411 : decode cL_law 411 = .ok (.iload 4, 2) := kDec_at dA408_cL_law 14 rfl
theorem dL_law_413 : decode cL_law 413 = .ok (.iconst 1, 1) := kDec_at dA408_cL_law 15 rfl
theorem dL_law_414 : decode cL_law 414 = .ok (.iadd, 1) := kDec_at dA408_cL_law 16 rfl
theorem dL_law_415 : decode cL_law 415 = .ok (.iaload, 1) := kDec_at dA408_cL_law 17 rfl
theorem dL_law_416 : decode cL_law 416 = .ok (.invokevirtual 49, 3) := kDec_at dA408_cL_law 18 rfl
theorem dL_law_419 : decode cL_law 419 = .ok (.pop, 1) := kDec_at dA408_cL_law 19 rfl
theorem dL_law_420 : decode cL_law 420 = .ok (.goto 602, 3) := kDec_at dA408_cL_law 20 rfl
theorem dL_law_451 : decode cL_law 451 = .ok (.aload_n 1, 1) := kDec_at dA408_cL_law 21 rfl
theorem dL_law_452 : decode cL_law 452 = .ok (.aload_n 0, 1) := kDec_at dA408_cL_law 22 rfl
theorem dL_law_453 : decode cL_law 453 = .ok (.iload 4, 2) := kDec_at dA408_cL_law 23 rfl
set_option maxRecDepth 100000 in
theorem dA409_cL_law : kDec cL_law [(455, .iconst 1, 1), (456, .iadd, 1), (457, .iaload, 1), (458, .invokevirtual 56, 3), (461, .pop, 1), (462, .aload_n 2, 1), (463, .aload_n 0, 1), (464, .iload 4, 2), (466, .iconst 1, 1), (467, .iadd, 1), (468, .iaload, 1), (469, .invokevirtual 59, 3), (472, .pop, 1), (473, .goto 549, 3)] = true := by decide +kernel
theorem dL_law_455 : decode cL_law 455 = .ok (.iconst 1, 1) := kDec_at dA409_cL_law 0 rfl
theorem dL_law_456 : decode cL_law 456 = .ok (.iadd, 1) := kDec_at dA409_cL_law 1 rfl
theorem dL_law_457 : decode cL_law 457 = .ok (.iaload, 1) := kDec_at dA409_cL_law 2 rfl
theorem dL_law_458 : decode cL_law 458 = .ok (.invokevirtual 56, 3) := kDec_at dA409_cL_law 3 rfl
theorem dL_law_461 : decode cL_law 461 = .ok (.pop, 1) := kDec_at dA409_cL_law 4 rfl
theorem dL_law_462 : decode cL_law 462 = .ok (.aload_n 2, 1) := kDec_at dA409_cL_law 5 rfl
theorem dL_law_463 : decode cL_law 463 = .ok (.aload_n 0, 1) := kDec_at dA409_cL_law 6 rfl
theorem dL_law_464 : decode cL_law 464 = .ok (.iload 4, 2) := kDec_at dA409_cL_law 7 rfl
theorem dL_law_466 : decode cL_law 466 = .ok (.iconst 1, 1) := kDec_at dA409_cL_law 8 rfl
theorem dL_law_467 : decode cL_law 467 = .ok (.iadd, 1) := kDec_at dA409_cL_law 9 rfl
theorem dL_law_468 : decode cL_law 468 = .ok (.iaload, 1) := kDec_at dA409_cL_law 10 rfl
theorem dL_law_469 : decode cL_law 469 = .ok (.invokevirtual 59, 3) := kDec_at dA409_cL_law 11 rfl
theorem dL_law_472 : decode cL_law 472 = .ok (.pop, 1) := kDec_at dA409_cL_law 12 rfl
theorem dL_law_473 : decode cL_law 473 = .ok (.goto 549, 3) := kDec_at dA409_cL_law 13 rfl

end

/-! 66.law -/
section
set_option maxHeartbeats 40000000 in
set_option maxRecDepth 100000 in
theorem law_feed {p : Program} {l : Launch} {e : Env} {s : State} {m : MethodId} {below : List Frame} {meth : Method} {c : Code} {dC : Nat → ClassId} {dI : Nat → Nat → Nat} {cI cS cJ : ClassId} {A : Nat → Prop} {b L : Nat} {xs : Nat → Int32} (C0 : lw_At p s m meth c b L xs) (hAd : A = fun q : Nat => s.heap.size ≤ q) (hK3 : va_K (dC, dI) vwCl [(cI, .int), (cS, .short), (cJ, .long)] s) {oX nT aT nL aL nM aM oC o4 a41 a42 a43 o5 a51 a52 a53 oP nB aB oH h1 h2 oK k1 k2 oG g1 g2 oR n1 a1 n2 a2 n3 a3 r1 r2 r3 r4 r5 r6 oQ oE nq aq np ap nv av q1 q2 q3 q4 oW nw aw o7 o8 o9 w1 w2 w3 w4 w5 w6 w7 oM mT mS mX mL mB mD m1 m2 mR x1 x2 x3 mH mY mE mW mO y1 y2 y3 y4 mZ oJ : Nat} {fa : Int32} {lT : Int32} {lL : Int32} {lM : Int32} {l4 : Int32} {l5 : Int32} {ft : Int32} {lB : Int32} {lH : Int32} {lK : Int32} {gn : Int32} {lG : Int32} {lR : Int32} {l1 : Int32} {l2 : Int32} {l3 : Int32} {pr : Int32} {reE : Int32} {laE : Int32} {suE : Int32} {leE : Int32} {lq : Int32} {lp : Int32} {lv : Int32} {ke : Int32} {tl : Int32} {fsh : Int32} {wi : Int32} {ri : Int32} {fm : Int32} {lm : Int32} {lw : Int32} {re7 : Int32} {la7 : Int32} {su7 : Int32} {le7 : Int32} {re8 : Int32} {la8 : Int32} {su8 : Int32} {le8 : Int32} {re9 : Int32} {la9 : Int32} {su9 : Int32} {le9 : Int32} {zt : Int32} {zp : Int32} {zf : Int32} {zh : Int32} {zr : Int32} {zc : Int32} {zy : Int32} {za : Int32} {zb : Int32} {zs : Int32} {zq : Int32} {zw : Int32} {ze : Int32} {zn : Int32} {zm : Int32} {zl : Int32} {zk : Int32} {zd : Int32} {fT : Nat → Int32} {fL : Nat → Int32} {fM : Nat → Int32} {f41 : Nat → Int32} {f42 : Nat → Int32} {f43 : Nat → Int32} {f51 : Nat → Int32} {f52 : Nat → Int32} {f53 : Nat → Int32} {fB : Nat → Int32} {fH1 : Nat → Int32} {fH2 : Nat → Int32} {fK1 : Nat → Int32} {fK2 : Nat → Int32} {fG1 : Nat → Int32} {fG2 : Nat → Int32} {f1 : Nat → Int32} {f2 : Nat → Int32} {f3 : Nat → Int32} {fR1 : Nat → Int32} {fR2 : Nat → Int32} {fR3 : Nat → Int32} {fR4 : Nat → Int32} {fR5 : Nat → Int32} {fR6 : Nat → Int32} {fq : Nat → Int32} {fp : Nat → Int32} {fv : Nat → Int32} {fQ1 : Nat → Int32} {fQ2 : Nat → Int32} {fQ3 : Nat → Int32} {fQ4 : Nat → Int32} {fw : Nat → Int32} {fW1 : Nat → Int32} {fW2 : Nat → Int32} {fW3 : Nat → Int32} {fW4 : Nat → Int32} {fW5 : Nat → Int32} {fW6 : Nat → Int32} {fW7 : Nat → Int32} {eT : Nat → Int32} {eS : Nat → Int32} {eX : Nat → Int32} {eL : Nat → Int32} {eB : Nat → Int32} {eD : Nat → Int32} {e1 : Nat → Int32} {e2 : Nat → Int32} {eR : Nat → Int32} {ec1 : Nat → Int32} {ec2 : Nat → Int32} {ec3 : Nat → Int32} {eH : Nat → Int32} {eY : Nat → Int32} {eE : Nat → Int32} {eW : Nat → Int32} {eO : Nat → Int32} {er1 : Nat → Int32} {er2 : Nat → Int32} {er3 : Nat → Int32} {er4 : Nat → Int32} {eZ : Nat → Int32} {fJ : Nat → Int64} {H : Heap} {locs : List Loc} {ls : Array Slot} {i : Int32} {nc : Nat} (hn : nc ≤ 511) (hi : 0 ≤ i.toInt ∧ i.toInt + 5 < (L : Int)) (hL : L ≤ 3072) (hI : INV nc lT lL lM l4 l5 lB lH lK gn lG lR l1 l2 l3 lq lp lv ke fsh wi ri fm lm lw zt zp zf zh zr zc zy za zb zs zq zn zm zk fT fL f41 f42 f43 f51 f52 f53 fH1 fH2 fK1 fK2 fG1 fG2 fW4 fW5 fW6 fW7 eT eS eX eL eB eD e1 e2 ec1 ec2 ec3 eH eY eE eW eO eZ) (hP : va_P (dC, dI) vwCl (WLD cI cS cJ oX nT aT nL aL nM aM oC o4 a41 a42 a43 o5 a51 a52 a53 oP nB aB oH h1 h2 oK k1 k2 oG g1 g2 oR n1 a1 n2 a2 n3 a3 r1 r2 r3 r4 r5 r6 oQ oE nq aq np ap nv av q1 q2 q3 q4 oW nw aw o7 o8 o9 w1 w2 w3 w4 w5 w6 w7 oM mT mS mX mL mB mD m1 m2 mR x1 x2 x3 mH mY mE mW mO y1 y2 y3 y4 mZ oJ fa lT lL lM l4 l5 ft lB lH lK gn lG lR l1 l2 l3 pr reE laE suE leE lq lp lv ke tl fsh wi ri fm lm lw re7 la7 su7 le7 re8 la8 su8 le8 re9 la9 su9 le9 zt zp zf zh zr zc zy za zb zs zq zw ze zn zm zl zk zd fT fL fM f41 f42 f43 f51 f52 f53 fB fH1 fH2 fK1 fK2 fG1 fG2 f1 f2 f3 fR1 fR2 fR3 fR4 fR5 fR6 fq fp fv fQ1 fQ2 fQ3 fQ4 fw fW1 fW2 fW3 fW4 fW5 fW6 fW7 eT eS eX eL eB eD e1 e2 eR ec1 ec2 ec3 eH eY eE eW eO er1 er2 er3 er4 eZ fJ) H) (hD : va_D A (WLD cI cS cJ oX nT aT nL aL nM aM oC o4 a41 a42 a43 o5 a51 a52 a53 oP nB aB oH h1 h2 oK k1 k2 oG g1 g2 oR n1 a1 n2 a2 n3 a3 r1 r2 r3 r4 r5 r6 oQ oE nq aq np ap nv av q1 q2 q3 q4 oW nw aw o7 o8 o9 w1 w2 w3 w4 w5 w6 w7 oM mT mS mX mL mB mD m1 m2 mR x1 x2 x3 mH mY mE mW mO y1 y2 y3 y4 mZ oJ fa lT lL lM l4 l5 ft lB lH lK gn lG lR l1 l2 l3 pr reE laE suE leE lq lp lv ke tl fsh wi ri fm lm lw re7 la7 su7 le7 re8 la8 su8 le8 re9 la9 su9 le9 zt zp zf zh zr zc zy za zb zs zq zw ze zn zm zl zk zd fT fL fM f41 f42 f43 f51 f52 f53 fB fH1 fH2 fK1 fK2 fG1 fG2 f1 f2 f3 fR1 fR2 fR3 fR4 fR5 fR6 fq fp fv fQ1 fQ2 fQ3 fQ4 fw fW1 fW2 fW3 fW4 fW5 fW6 fW7 eT eS eX eL eB eD e1 e2 eR ec1 ec2 ec3 eH eY eE eW eO er1 er2 er3 er4 eZ fJ)) (hS : va_S A s.heap H locs) (hl : lv_has ls 7 [(0, .ref b), (1, .ref oX), (2, .ref oM), (3, .ref oJ), (4, .int i)]) (kk : KK p l e s m below meth c dC dI cI cS cJ A b oX nT aT nL aL nM aM oC o4 a41 a42 a43 o5 a51 a52 a53 oP nB aB oH h1 h2 oK k1 k2 oG g1 g2 oR n1 a1 n2 a2 n3 a3 r1 r2 r3 r4 r5 r6 oQ oE nq aq np ap nv av q1 q2 q3 q4 oW nw aw o7 o8 o9 w1 w2 w3 w4 w5 w6 w7 oM mT mS mX mL mB mD m1 m2 mR x1 x2 x3 mH mY mE mW mO y1 y2 y3 y4 mZ oJ i nc) : W p l e room_1 s m #[Value.ref b] below meth c H locs (90 + nc) (172225 + 6 * nc) (lw_Z below #[Value.ref b] s) (F0 m 164 ls []) := by
  refine And.elim (fun hx hBC_0 => ?_) C0
  refine And.elim (fun hb hBC_1 => ?_) hBC_0
  refine And.elim (fun hr hBC_2 => ?_) hBC_1
  refine And.elim (fun hml hBC_3 => ?_) hBC_2
  refine And.elim (fun hown hBC_4 => ?_) hBC_3
  refine And.elim (fun hts0 hBC_5 => ?_) hBC_4
  refine And.elim (fun hX hBC_6 => ?_) hBC_5
  refine And.elim (fun hbl hBC_7 => ?_) hBC_6
  refine And.elim (fun hlocks hBC_8 => ?_) hBC_7
  have hgv := hBC_8
  clear hBC_0 hBC_1 hBC_2 hBC_3 hBC_4 hBC_5 hBC_6 hBC_7 hBC_8
  refine And.elim (fun g_lT hBI_0 => ?_) hI
  refine And.elim (fun g_lL hBI_1 => ?_) hBI_0
  refine And.elim (fun g_lM hBI_2 => ?_) hBI_1
  refine And.elim (fun g_lB hBI_3 => ?_) hBI_2
  refine And.elim (fun g_lH hBI_4 => ?_) hBI_3
  refine And.elim (fun g_lK hBI_5 => ?_) hBI_4
  refine And.elim (fun g_gn hBI_6 => ?_) hBI_5
  refine And.elim (fun g_lG hBI_7 => ?_) hBI_6
  refine And.elim (fun g_lR hBI_8 => ?_) hBI_7
  refine And.elim (fun g_l1 hBI_9 => ?_) hBI_8
  refine And.elim (fun g_l2 hBI_10 => ?_) hBI_9
  refine And.elim (fun g_l3 hBI_11 => ?_) hBI_10
  refine And.elim (fun g_lq hBI_12 => ?_) hBI_11
  refine And.elim (fun g_lp hBI_13 => ?_) hBI_12
  refine And.elim (fun g_lv hBI_14 => ?_) hBI_13
  refine And.elim (fun g_ke hBI_15 => ?_) hBI_14
  refine And.elim (fun g_fsh hBI_16 => ?_) hBI_15
  refine And.elim (fun g_fm hBI_17 => ?_) hBI_16
  refine And.elim (fun g_lm hBI_18 => ?_) hBI_17
  refine And.elim (fun g_lw hBI_19 => ?_) hBI_18
  refine And.elim (fun g_zt hBI_20 => ?_) hBI_19
  refine And.elim (fun g_zp hBI_21 => ?_) hBI_20
  refine And.elim (fun g_zf hBI_22 => ?_) hBI_21
  refine And.elim (fun g_zh hBI_23 => ?_) hBI_22
  refine And.elim (fun g_zr hBI_24 => ?_) hBI_23
  refine And.elim (fun g_zc hBI_25 => ?_) hBI_24
  refine And.elim (fun g_zy hBI_26 => ?_) hBI_25
  refine And.elim (fun g_za hBI_27 => ?_) hBI_26
  refine And.elim (fun g_zb hBI_28 => ?_) hBI_27
  refine And.elim (fun g_zs hBI_29 => ?_) hBI_28
  refine And.elim (fun g_zq hBI_30 => ?_) hBI_29
  refine And.elim (fun g_zn hBI_31 => ?_) hBI_30
  refine And.elim (fun g_zm hBI_32 => ?_) hBI_31
  refine And.elim (fun g_zk hBI_33 => ?_) hBI_32
  refine And.elim (fun g_fG2 hBI_34 => ?_) hBI_33
  refine And.elim (fun g_eS hBI_35 => ?_) hBI_34
  refine And.elim (fun g_eX hBI_36 => ?_) hBI_35
  refine And.elim (fun g_eL hBI_37 => ?_) hBI_36
  refine And.elim (fun g_eB hBI_38 => ?_) hBI_37
  refine And.elim (fun g_e1 hBI_39 => ?_) hBI_38
  refine And.elim (fun g_e2 hBI_40 => ?_) hBI_39
  refine And.elim (fun g_eY hBI_41 => ?_) hBI_40
  refine And.elim (fun g_eE hBI_42 => ?_) hBI_41
  refine And.elim (fun g_eW hBI_43 => ?_) hBI_42
  refine And.elim (fun g_eO hBI_44 => ?_) hBI_43
  refine And.elim (fun g_eZ hBI_45 => ?_) hBI_44
  refine And.elim (fun hzn hBI_46 => ?_) hBI_45
  refine And.elim (fun hrel hBI_47 => ?_) hBI_46
  refine And.elim (fun hrc hBI_48 => ?_) hBI_47
  refine And.elim (fun hr4 hBI_49 => ?_) hBI_48
  refine And.elim (fun hr5 hBI_50 => ?_) hBI_49
  refine And.elim (fun hb4 hBI_51 => ?_) hBI_50
  refine And.elim (fun hb5 hBI_52 => ?_) hBI_51
  refine And.elim (fun hlz hBI_53 => ?_) hBI_52
  refine And.elim (fun hH hBI_54 => ?_) hBI_53
  refine And.elim (fun hHe hBI_55 => ?_) hBI_54
  refine And.elim (fun hKz hBI_56 => ?_) hBI_55
  refine And.elim (fun hT hBI_57 => ?_) hBI_56
  refine And.elim (fun ho hBI_58 => ?_) hBI_57
  refine And.elim (fun hal hBI_59 => ?_) hBI_58
  refine And.elim (fun hCV hBI_60 => ?_) hBI_59
  refine And.elim (fun hVk hBI_61 => ?_) hBI_60
  refine And.elim (fun hVr hBI_62 => ?_) hBI_61
  refine And.elim (fun hTX hBI_63 => ?_) hBI_62
  refine And.elim (fun hCH hBI_64 => ?_) hBI_63
  refine And.elim (fun hvc hBI_65 => ?_) hBI_64
  refine And.elim (fun hfr hBI_66 => ?_) hBI_65
  refine And.elim (fun hfx hBI_67 => ?_) hBI_66
  have hfs := hBI_67
  clear hI hBI_0 hBI_1 hBI_2 hBI_3 hBI_4 hBI_5 hBI_6 hBI_7 hBI_8 hBI_9 hBI_10 hBI_11 hBI_12 hBI_13 hBI_14 hBI_15 hBI_16 hBI_17 hBI_18 hBI_19 hBI_20 hBI_21 hBI_22 hBI_23 hBI_24 hBI_25 hBI_26 hBI_27 hBI_28 hBI_29 hBI_30 hBI_31 hBI_32 hBI_33 hBI_34 hBI_35 hBI_36 hBI_37 hBI_38 hBI_39 hBI_40 hBI_41 hBI_42 hBI_43 hBI_44 hBI_45 hBI_46 hBI_47 hBI_48 hBI_49 hBI_50 hBI_51 hBI_52 hBI_53 hBI_54 hBI_55 hBI_56 hBI_57 hBI_58 hBI_59 hBI_60 hBI_61 hBI_62 hBI_63 hBI_64 hBI_65 hBI_66 hBI_67
  have hK : va_K (dC, dI) vwCl [(cI, .int), (cS, .short)] s := hK3.sub [0, 1] rfl
  have hown : s.vm.findClass RL = some m.cls := hown
  have hts := hts0
  have hcf := k_cf hx hb hml hown hts
  have hi9 : 0 ≤ i.toInt ∧ i.toInt ≤ 3066 := by omega
  have hzs : zs.toInt ≤ 1000000 := by omega
  have hA : ∀ q : Nat, s.heap.size ≤ q → A q := fun q h => by rw [hAd]; exact h
  have hbA : ¬ A b := by rw [hAd]; exact Nat.not_le.mpr hbl
  have hP : va_P (dC, dI) vwCl [(oX, .inr (11, [.ref nT, .ref nL, .ref nM, .ref oC, .ref oP, .ref oH, .ref oK, .ref oG, .ref oR, .ref oQ, .ref oW, .int fa])), (nT, .inr (5, [.ref aT, .int lT])), (aT, .inl (cI, 900, .inl fT)), (nL, .inr (5, [.ref aL, .int lL])), (aL, .inl (cI, 300, .inl fL)), (nM, .inr (5, [.ref aM, .int lM])), (aM, .inl (cI, 300, .inl fM)), (oC, .inr (2, [.ref o4, .ref o5])), (o4, .inr (10, [.ref a41, .ref a42, .ref a43, .int l4])), (a41, .inl (cI, 256, .inl f41)), (a42, .inl (cI, 512, .inl f42)), (a43, .inl (cI, 512, .inl f43)), (o5, .inr (10, [.ref a51, .ref a52, .ref a53, .int l5])), (a51, .inl (cI, 256, .inl f51)), (a52, .inl (cI, 512, .inl f52)), (a53, .inl (cI, 512, .inl f53)), (oP, .inr (7, [.ref oC, .ref nB, .int ft])), (nB, .inr (5, [.ref aB, .int lB])), (aB, .inl (cI, 2400, .inl fB)), (oH, .inr (4, [.ref oP, .ref h1, .ref h2, .int lH])), (h1, .inl (cI, 6, .inl fH1)), (h2, .inl (cI, 6, .inl fH2)), (oK, .inr (3, [.ref k1, .ref k2, .int lK])), (k1, .inl (cI, 1024, .inl fK1)), (k2, .inl (cI, 1024, .inl fK2)), (oG, .inr (0, [.ref g1, .ref g2, .int gn, .int lG])), (g1, .inl (cI, 6000, .inl fG1)), (g2, .inl (cI, 20, .inl fG2)), (oR, .inr (9, [.ref oH, .ref oK, .ref n1, .ref n2, .ref n3, .ref r1, .ref r2, .ref r3, .ref r4, .ref r5, .ref r6, .int lR])), (n1, .inr (5, [.ref a1, .int l1])), (a1, .inl (cI, 300, .inl f1)), (n2, .inr (5, [.ref a2, .int l2])), (a2, .inl (cI, 300, .inl f2)), (n3, .inr (5, [.ref a3, .int l3])), (a3, .inl (cI, 300, .inl f3)), (r1, .inl (cI, 258, .inl fR1)), (r2, .inl (cI, 258, .inl fR2)), (r3, .inl (cI, 774, .inl fR3)), (r4, .inl (cI, 258, .inl fR4)), (r5, .inl (cI, 258, .inl fR5)), (r6, .inl (cI, 774, .inl fR6)), (oQ, .inr (6, [.ref oC, .ref oH, .ref oK, .ref oE, .ref nq, .ref np, .ref nv, .ref q1, .ref q2, .ref q3, .ref q4, .int pr])), (oE, .inr (8, [.ref oC, .ref oK, .int reE, .int laE, .int suE, .int leE])), (nq, .inr (5, [.ref aq, .int lq])), (aq, .inl (cI, 480, .inl fq)), (np, .inr (5, [.ref ap, .int lp])), (ap, .inl (cI, 300, .inl fp)), (nv, .inr (5, [.ref av, .int lv])), (av, .inl (cI, 300, .inl fv)), (q1, .inl (cI, 61, .inl fQ1)), (q2, .inl (cI, 61, .inl fQ2)), (q3, .inl (cI, 61, .inl fQ3)), (q4, .inl (cI, 61, .inl fQ4)), (oW, .inr (1, [.ref oC, .ref oK, .ref nw, .ref w1, .ref w2, .ref w3, .ref o7, .ref o8, .ref o9, .ref w4, .ref w5, .ref w6, .ref w7, .int ke, .int tl, .int fsh, .int wi, .int ri, .int fm, .int lm])), (nw, .inr (5, [.ref aw, .int lw])), (aw, .inl (cI, 800, .inl fw)), (o7, .inr (8, [.ref oC, .ref oK, .int re7, .int la7, .int su7, .int le7])), (o8, .inr (8, [.ref oC, .ref oK, .int re8, .int la8, .int su8, .int le8])), (o9, .inr (8, [.ref oC, .ref oK, .int re9, .int la9, .int su9, .int le9])), (w1, .inl (cI, 801, .inl fW1)), (w2, .inl (cI, 801, .inl fW2)), (w3, .inl (cI, 801, .inl fW3)), (w4, .inl (cI, 200, .inl fW4)), (w5, .inl (cI, 200, .inl fW5)), (w6, .inl (cI, 200, .inl fW6)), (w7, .inl (cI, 200, .inl fW7)), (oM, .inr (12, [.ref mT, .int zt, .ref mS, .ref mX, .int zp, .int zf, .ref mL, .ref mB, .ref mD, .ref m1, .ref m2, .int zh, .ref mR, .int zr, .ref x1, .ref x2, .ref x3, .int zc, .ref mH, .int zy, .int za, .int zb, .int zs, .int zq, .int zw, .int ze, .ref mY, .int zn, .ref mE, .int zm, .int zl, .ref mW, .int zk, .ref mO, .int zd, .ref y1, .ref y2, .ref y3, .ref y4, .ref mZ])), (mT, .inl (cI, 900, .inl eT)), (mS, .inl (cI, 21, .inl eS)), (mX, .inl (cI, 6300, .inl eX)), (mL, .inl (cI, 512, .inl eL)), (mB, .inl (cS, 131072, .inl eB)), (mD, .inl (cI, 2, .inl eD)), (m1, .inl (cI, 6, .inl e1)), (m2, .inl (cI, 6, .inl e2)), (mR, .inl (cI, 1548, .inl eR)), (x1, .inl (cI, 300, .inl ec1)), (x2, .inl (cI, 300, .inl ec2)), (x3, .inl (cI, 300, .inl ec3)), (mH, .inl (cI, 800, .inl eH)), (mY, .inl (cI, 2600, .inl eY)), (mE, .inl (cI, 2600, .inl eE)), (mW, .inl (cI, 300, .inl eW)), (mO, .inl (cI, 300, .inl eO)), (y1, .inl (cI, 61, .inl er1)), (y2, .inl (cI, 61, .inl er2)), (y3, .inl (cI, 61, .inl er3)), (y4, .inl (cI, 61, .inl er4)), (mZ, .inl (cI, 600, .inl eZ)), (oJ, .inl (cJ, 1, .inr (.inl fJ)))] H := hP
  have hD : va_D A [(oX, .inr (11, [.ref nT, .ref nL, .ref nM, .ref oC, .ref oP, .ref oH, .ref oK, .ref oG, .ref oR, .ref oQ, .ref oW, .int fa])), (nT, .inr (5, [.ref aT, .int lT])), (aT, .inl (cI, 900, .inl fT)), (nL, .inr (5, [.ref aL, .int lL])), (aL, .inl (cI, 300, .inl fL)), (nM, .inr (5, [.ref aM, .int lM])), (aM, .inl (cI, 300, .inl fM)), (oC, .inr (2, [.ref o4, .ref o5])), (o4, .inr (10, [.ref a41, .ref a42, .ref a43, .int l4])), (a41, .inl (cI, 256, .inl f41)), (a42, .inl (cI, 512, .inl f42)), (a43, .inl (cI, 512, .inl f43)), (o5, .inr (10, [.ref a51, .ref a52, .ref a53, .int l5])), (a51, .inl (cI, 256, .inl f51)), (a52, .inl (cI, 512, .inl f52)), (a53, .inl (cI, 512, .inl f53)), (oP, .inr (7, [.ref oC, .ref nB, .int ft])), (nB, .inr (5, [.ref aB, .int lB])), (aB, .inl (cI, 2400, .inl fB)), (oH, .inr (4, [.ref oP, .ref h1, .ref h2, .int lH])), (h1, .inl (cI, 6, .inl fH1)), (h2, .inl (cI, 6, .inl fH2)), (oK, .inr (3, [.ref k1, .ref k2, .int lK])), (k1, .inl (cI, 1024, .inl fK1)), (k2, .inl (cI, 1024, .inl fK2)), (oG, .inr (0, [.ref g1, .ref g2, .int gn, .int lG])), (g1, .inl (cI, 6000, .inl fG1)), (g2, .inl (cI, 20, .inl fG2)), (oR, .inr (9, [.ref oH, .ref oK, .ref n1, .ref n2, .ref n3, .ref r1, .ref r2, .ref r3, .ref r4, .ref r5, .ref r6, .int lR])), (n1, .inr (5, [.ref a1, .int l1])), (a1, .inl (cI, 300, .inl f1)), (n2, .inr (5, [.ref a2, .int l2])), (a2, .inl (cI, 300, .inl f2)), (n3, .inr (5, [.ref a3, .int l3])), (a3, .inl (cI, 300, .inl f3)), (r1, .inl (cI, 258, .inl fR1)), (r2, .inl (cI, 258, .inl fR2)), (r3, .inl (cI, 774, .inl fR3)), (r4, .inl (cI, 258, .inl fR4)), (r5, .inl (cI, 258, .inl fR5)), (r6, .inl (cI, 774, .inl fR6)), (oQ, .inr (6, [.ref oC, .ref oH, .ref oK, .ref oE, .ref nq, .ref np, .ref nv, .ref q1, .ref q2, .ref q3, .ref q4, .int pr])), (oE, .inr (8, [.ref oC, .ref oK, .int reE, .int laE, .int suE, .int leE])), (nq, .inr (5, [.ref aq, .int lq])), (aq, .inl (cI, 480, .inl fq)), (np, .inr (5, [.ref ap, .int lp])), (ap, .inl (cI, 300, .inl fp)), (nv, .inr (5, [.ref av, .int lv])), (av, .inl (cI, 300, .inl fv)), (q1, .inl (cI, 61, .inl fQ1)), (q2, .inl (cI, 61, .inl fQ2)), (q3, .inl (cI, 61, .inl fQ3)), (q4, .inl (cI, 61, .inl fQ4)), (oW, .inr (1, [.ref oC, .ref oK, .ref nw, .ref w1, .ref w2, .ref w3, .ref o7, .ref o8, .ref o9, .ref w4, .ref w5, .ref w6, .ref w7, .int ke, .int tl, .int fsh, .int wi, .int ri, .int fm, .int lm])), (nw, .inr (5, [.ref aw, .int lw])), (aw, .inl (cI, 800, .inl fw)), (o7, .inr (8, [.ref oC, .ref oK, .int re7, .int la7, .int su7, .int le7])), (o8, .inr (8, [.ref oC, .ref oK, .int re8, .int la8, .int su8, .int le8])), (o9, .inr (8, [.ref oC, .ref oK, .int re9, .int la9, .int su9, .int le9])), (w1, .inl (cI, 801, .inl fW1)), (w2, .inl (cI, 801, .inl fW2)), (w3, .inl (cI, 801, .inl fW3)), (w4, .inl (cI, 200, .inl fW4)), (w5, .inl (cI, 200, .inl fW5)), (w6, .inl (cI, 200, .inl fW6)), (w7, .inl (cI, 200, .inl fW7)), (oM, .inr (12, [.ref mT, .int zt, .ref mS, .ref mX, .int zp, .int zf, .ref mL, .ref mB, .ref mD, .ref m1, .ref m2, .int zh, .ref mR, .int zr, .ref x1, .ref x2, .ref x3, .int zc, .ref mH, .int zy, .int za, .int zb, .int zs, .int zq, .int zw, .int ze, .ref mY, .int zn, .ref mE, .int zm, .int zl, .ref mW, .int zk, .ref mO, .int zd, .ref y1, .ref y2, .ref y3, .ref y4, .ref mZ])), (mT, .inl (cI, 900, .inl eT)), (mS, .inl (cI, 21, .inl eS)), (mX, .inl (cI, 6300, .inl eX)), (mL, .inl (cI, 512, .inl eL)), (mB, .inl (cS, 131072, .inl eB)), (mD, .inl (cI, 2, .inl eD)), (m1, .inl (cI, 6, .inl e1)), (m2, .inl (cI, 6, .inl e2)), (mR, .inl (cI, 1548, .inl eR)), (x1, .inl (cI, 300, .inl ec1)), (x2, .inl (cI, 300, .inl ec2)), (x3, .inl (cI, 300, .inl ec3)), (mH, .inl (cI, 800, .inl eH)), (mY, .inl (cI, 2600, .inl eY)), (mE, .inl (cI, 2600, .inl eE)), (mW, .inl (cI, 300, .inl eW)), (mO, .inl (cI, 300, .inl eO)), (y1, .inl (cI, 61, .inl er1)), (y2, .inl (cI, 61, .inl er2)), (y3, .inl (cI, 61, .inl er3)), (y4, .inl (cI, 61, .inl er4)), (mZ, .inl (cI, 600, .inl eZ)), (oJ, .inl (cJ, 1, .inr (.inl fJ)))] := hD
  replace g_lM := hid g_lM
  replace g_lB := hid g_lB
  replace g_lR := hid g_lR
  replace g_l1 := hid g_l1
  replace g_l2 := hid g_l2
  replace g_l3 := hid g_l3
  replace g_lq := hid g_lq
  replace g_lp := hid g_lp
  replace g_lv := hid g_lv
  replace g_fm := hid g_fm
  replace g_lm := hid g_lm
  replace g_lw := hid g_lw
  replace g_zr := hid g_zr
  replace g_zn := hid g_zn
  replace g_zm := hid g_zm
  replace g_zk := hid g_zk
  refine lv_aload_n hx hb dL_law_164 rfl (lv_at hl 1 rfl) ?_
  refine lv_aload_n hx hb dL_law_165 rfl (lv_at hl 0 rfl) ?_
  refine lv_iload hx hb dL_law_166 (lv_at hl 4 rfl) ?_
  refine lv_iconst (v := 1) hx hb dL_law_168 (by decide) ?_
  refine lv_iadd hx hb dL_law_169 ?_
  refine lv_topi (fun x_1 ex_1 => ?_)
  have tx_1 : x_1.toInt = i.toInt + 1 := v_addR (l2 := 1) (h2 := 1) ex_1 hi9 (by decide) (by decide) (by decide)
  refine va_sld hx hb hX hbl hbA hS (v_in (v_sld5 tx_1 hi (by decide))) dL_law_170 ?_
  refine lv_topi (fun x_2 ex_2 => ?_)
  refine lv_aload_n hx hb dL_law_171 rfl (lv_at hl 0 rfl) ?_
  refine lv_iload hx hb dL_law_172 (lv_at hl 4 rfl) ?_
  refine lv_iconst (v := 2) hx hb dL_law_174 (by decide) ?_
  refine lv_iadd hx hb dL_law_175 ?_
  refine lv_topi (fun x_3 ex_3 => ?_)
  have tx_3 : x_3.toInt = i.toInt + 2 := v_addR (l2 := 2) (h2 := 2) ex_3 hi9 (by decide) (by decide) (by decide)
  refine va_sld hx hb hX hbl hbA hS (v_in (v_sld5 tx_3 hi (by decide))) dL_law_176 ?_
  refine lv_topi (fun x_4 ex_4 => ?_)
  refine lv_aload_n hx hb dL_law_177 rfl (lv_at hl 0 rfl) ?_
  refine lv_iload hx hb dL_law_178 (lv_at hl 4 rfl) ?_
  refine lv_iconst (v := 3) hx hb dL_law_180 (by decide) ?_
  refine lv_iadd hx hb dL_law_181 ?_
  refine lv_topi (fun x_5 ex_5 => ?_)
  have tx_5 : x_5.toInt = i.toInt + 3 := v_addR (l2 := 3) (h2 := 3) ex_5 hi9 (by decide) (by decide) (by decide)
  refine va_sld hx hb hX hbl hbA hS (v_in (v_sld5 tx_5 hi (by decide))) dL_law_182 ?_
  refine lv_topi (fun x_6 ex_6 => ?_)
  refine lv_aload_n hx hb dL_law_183 rfl (lv_at hl 0 rfl) ?_
  refine lv_iload hx hb dL_law_184 (lv_at hl 4 rfl) ?_
  refine lv_iconst (v := 4) hx hb dL_law_186 (by decide) ?_
  refine lv_iadd hx hb dL_law_187 ?_
  refine lv_topi (fun x_7 ex_7 => ?_)
  have tx_7 : x_7.toInt = i.toInt + 4 := v_addR (l2 := 4) (h2 := 4) ex_7 hi9 (by decide) (by decide) (by decide)
  refine va_sld hx hb hX hbl hbA hS (v_in (v_sld5 tx_7 hi (by decide))) dL_law_188 ?_
  refine lv_topi (fun x_8 ex_8 => ?_)
  refine lv_aload_n hx hb dL_law_189 rfl (lv_at hl 0 rfl) ?_
  refine lv_iload hx hb dL_law_190 (lv_at hl 4 rfl) ?_
  refine lv_iconst (v := 5) hx hb dL_law_192 (by decide) ?_
  refine lv_iadd hx hb dL_law_193 ?_
  refine lv_topi (fun x_9 ex_9 => ?_)
  have tx_9 : x_9.toInt = i.toInt + 5 := v_addR (l2 := 5) (h2 := 5) ex_9 hi9 (by decide) (by decide) (by decide)
  refine va_sld hx hb hX hbl hbA hS (v_in (v_sld5 tx_9 hi (by decide))) dL_law_194 ?_
  refine lv_topi (fun x_10 ex_10 => ?_)
  refine kV_i (rest := []) (q0 := 0) (ci := 11) hcf (f_X11_feed l dC dI cI cS H.size oX nT nL nM oC oP oH oK oG oR oQ oW aT fa lT fT x_2 x_4 x_6 x_8 x_10 (g_lT)) kc_X11_feed gL_law_X11_feed rfl rfl rfl ⟨Nat.le_of_ble_eq_true rfl, Nat.le_of_ble_eq_true rfl⟩ kX_t hK hP hD hS hA (posT mk_0 0) (posF mk_0 0) (kC_of mk_0 rfl rfl) (by decide +kernel) rfl rfl rfl hl rfl (Nat.le_of_ble_eq_true rfl) dL_law_195 ⟨kfit1 hn (Nat.le_of_ble_eq_true rfl), ksix1 hn (Nat.le_of_ble_eq_true rfl)⟩ (fun r_11 H locs hB hJ hSn => ?_)
  refine Exists.elim hB (fun lT_11 hB11_0 => ?_)
  refine Exists.elim hB11_0 (fun fT_11 hB11_1 => ?_)
  refine And.elim (fun hPD9 hB11_2 => ?_) hB11_1
  refine And.elim (fun hf11_0 hB11_3 => ?_) hB11_2
  refine And.elim (fun hf11_1 hB11_4 => ?_) hB11_3
  have hf11_2 := hB11_4
  clear hB hB11_0 hB11_1 hB11_2 hB11_3 hB11_4
  obtain ⟨hPn, hDn⟩ := kJi (m := mk_0) hJ rfl hPD9.1 hPD9.2 (wn := [(oX, .inr (11, [.ref nT, .ref nL, .ref nM, .ref oC, .ref oP, .ref oH, .ref oK, .ref oG, .ref oR, .ref oQ, .ref oW, .int fa])), (nT, .inr (5, [.ref aT, .int lT_11])), (aT, .inl (cI, 900, .inl fT_11)), (nL, .inr (5, [.ref aL, .int lL])), (aL, .inl (cI, 300, .inl fL)), (nM, .inr (5, [.ref aM, .int lM])), (aM, .inl (cI, 300, .inl fM)), (oC, .inr (2, [.ref o4, .ref o5])), (o4, .inr (10, [.ref a41, .ref a42, .ref a43, .int l4])), (a41, .inl (cI, 256, .inl f41)), (a42, .inl (cI, 512, .inl f42)), (a43, .inl (cI, 512, .inl f43)), (o5, .inr (10, [.ref a51, .ref a52, .ref a53, .int l5])), (a51, .inl (cI, 256, .inl f51)), (a52, .inl (cI, 512, .inl f52)), (a53, .inl (cI, 512, .inl f53)), (oP, .inr (7, [.ref oC, .ref nB, .int ft])), (nB, .inr (5, [.ref aB, .int lB])), (aB, .inl (cI, 2400, .inl fB)), (oH, .inr (4, [.ref oP, .ref h1, .ref h2, .int lH])), (h1, .inl (cI, 6, .inl fH1)), (h2, .inl (cI, 6, .inl fH2)), (oK, .inr (3, [.ref k1, .ref k2, .int lK])), (k1, .inl (cI, 1024, .inl fK1)), (k2, .inl (cI, 1024, .inl fK2)), (oG, .inr (0, [.ref g1, .ref g2, .int gn, .int lG])), (g1, .inl (cI, 6000, .inl fG1)), (g2, .inl (cI, 20, .inl fG2)), (oR, .inr (9, [.ref oH, .ref oK, .ref n1, .ref n2, .ref n3, .ref r1, .ref r2, .ref r3, .ref r4, .ref r5, .ref r6, .int lR])), (n1, .inr (5, [.ref a1, .int l1])), (a1, .inl (cI, 300, .inl f1)), (n2, .inr (5, [.ref a2, .int l2])), (a2, .inl (cI, 300, .inl f2)), (n3, .inr (5, [.ref a3, .int l3])), (a3, .inl (cI, 300, .inl f3)), (r1, .inl (cI, 258, .inl fR1)), (r2, .inl (cI, 258, .inl fR2)), (r3, .inl (cI, 774, .inl fR3)), (r4, .inl (cI, 258, .inl fR4)), (r5, .inl (cI, 258, .inl fR5)), (r6, .inl (cI, 774, .inl fR6)), (oQ, .inr (6, [.ref oC, .ref oH, .ref oK, .ref oE, .ref nq, .ref np, .ref nv, .ref q1, .ref q2, .ref q3, .ref q4, .int pr])), (oE, .inr (8, [.ref oC, .ref oK, .int reE, .int laE, .int suE, .int leE])), (nq, .inr (5, [.ref aq, .int lq])), (aq, .inl (cI, 480, .inl fq)), (np, .inr (5, [.ref ap, .int lp])), (ap, .inl (cI, 300, .inl fp)), (nv, .inr (5, [.ref av, .int lv])), (av, .inl (cI, 300, .inl fv)), (q1, .inl (cI, 61, .inl fQ1)), (q2, .inl (cI, 61, .inl fQ2)), (q3, .inl (cI, 61, .inl fQ3)), (q4, .inl (cI, 61, .inl fQ4)), (oW, .inr (1, [.ref oC, .ref oK, .ref nw, .ref w1, .ref w2, .ref w3, .ref o7, .ref o8, .ref o9, .ref w4, .ref w5, .ref w6, .ref w7, .int ke, .int tl, .int fsh, .int wi, .int ri, .int fm, .int lm])), (nw, .inr (5, [.ref aw, .int lw])), (aw, .inl (cI, 800, .inl fw)), (o7, .inr (8, [.ref oC, .ref oK, .int re7, .int la7, .int su7, .int le7])), (o8, .inr (8, [.ref oC, .ref oK, .int re8, .int la8, .int su8, .int le8])), (o9, .inr (8, [.ref oC, .ref oK, .int re9, .int la9, .int su9, .int le9])), (w1, .inl (cI, 801, .inl fW1)), (w2, .inl (cI, 801, .inl fW2)), (w3, .inl (cI, 801, .inl fW3)), (w4, .inl (cI, 200, .inl fW4)), (w5, .inl (cI, 200, .inl fW5)), (w6, .inl (cI, 200, .inl fW6)), (w7, .inl (cI, 200, .inl fW7)), (oM, .inr (12, [.ref mT, .int zt, .ref mS, .ref mX, .int zp, .int zf, .ref mL, .ref mB, .ref mD, .ref m1, .ref m2, .int zh, .ref mR, .int zr, .ref x1, .ref x2, .ref x3, .int zc, .ref mH, .int zy, .int za, .int zb, .int zs, .int zq, .int zw, .int ze, .ref mY, .int zn, .ref mE, .int zm, .int zl, .ref mW, .int zk, .ref mO, .int zd, .ref y1, .ref y2, .ref y3, .ref y4, .ref mZ])), (mT, .inl (cI, 900, .inl eT)), (mS, .inl (cI, 21, .inl eS)), (mX, .inl (cI, 6300, .inl eX)), (mL, .inl (cI, 512, .inl eL)), (mB, .inl (cS, 131072, .inl eB)), (mD, .inl (cI, 2, .inl eD)), (m1, .inl (cI, 6, .inl e1)), (m2, .inl (cI, 6, .inl e2)), (mR, .inl (cI, 1548, .inl eR)), (x1, .inl (cI, 300, .inl ec1)), (x2, .inl (cI, 300, .inl ec2)), (x3, .inl (cI, 300, .inl ec3)), (mH, .inl (cI, 800, .inl eH)), (mY, .inl (cI, 2600, .inl eY)), (mE, .inl (cI, 2600, .inl eE)), (mW, .inl (cI, 300, .inl eW)), (mO, .inl (cI, 300, .inl eO)), (y1, .inl (cI, 61, .inl er1)), (y2, .inl (cI, 61, .inl er2)), (y3, .inl (cI, 61, .inl er3)), (y4, .inl (cI, 61, .inl er4)), (mZ, .inl (cI, 600, .inl eZ)), (oJ, .inl (cJ, 1, .inr (.inl fJ)))]) rfl
  clear hP hD hS hJ hPD9
  have hP := hPn
  have hD := hDn
  have hS := hSn
  clear hPn hDn hSn
  refine lv_pop hx hb dL_law_198 rfl ?_
  refine lv_aload_n hx hb dL_law_199 rfl (lv_at hl 2 rfl) ?_
  refine lv_aload_n hx hb dL_law_200 rfl (lv_at hl 0 rfl) ?_
  refine lv_iload hx hb dL_law_201 (lv_at hl 4 rfl) ?_
  refine lv_iconst (v := 1) hx hb dL_law_203 (by decide) ?_
  refine lv_iadd hx hb dL_law_204 ?_
  refine lv_topi (fun x_12 ex_12 => ?_)
  have tx_12 : x_12.toInt = i.toInt + 1 := v_addR (l2 := 1) (h2 := 1) ex_12 hi9 (by decide) (by decide) (by decide)
  refine va_sld hx hb hX hbl hbA hS (v_in (v_sld5 tx_12 hi (by decide))) dL_law_205 ?_
  refine lv_topi (fun x_13 ex_13 => ?_)
  have es_13 : x_13 = x_2 := by rw [ex_13, ex_2, ex_12, ex_1]
  rw [es_13]
  refine lv_aload_n hx hb dL_law_206 rfl (lv_at hl 0 rfl) ?_
  refine lv_iload hx hb dL_law_207 (lv_at hl 4 rfl) ?_
  refine lv_iconst (v := 2) hx hb dL_law_209 (by decide) ?_
  refine lv_iadd hx hb dL_law_210 ?_
  refine lv_topi (fun x_14 ex_14 => ?_)
  have tx_14 : x_14.toInt = i.toInt + 2 := v_addR (l2 := 2) (h2 := 2) ex_14 hi9 (by decide) (by decide) (by decide)
  refine va_sld hx hb hX hbl hbA hS (v_in (v_sld5 tx_14 hi (by decide))) dL_law_211 ?_
  refine lv_topi (fun x_15 ex_15 => ?_)
  have es_15 : x_15 = x_4 := by rw [ex_15, ex_4, ex_14, ex_3]
  rw [es_15]
  refine lv_aload_n hx hb dL_law_212 rfl (lv_at hl 0 rfl) ?_
  refine lv_iload hx hb dL_law_213 (lv_at hl 4 rfl) ?_
  refine lv_iconst (v := 3) hx hb dL_law_215 (by decide) ?_
  refine lv_iadd hx hb dL_law_216 ?_
  refine lv_topi (fun x_16 ex_16 => ?_)
  have tx_16 : x_16.toInt = i.toInt + 3 := v_addR (l2 := 3) (h2 := 3) ex_16 hi9 (by decide) (by decide) (by decide)
  refine va_sld hx hb hX hbl hbA hS (v_in (v_sld5 tx_16 hi (by decide))) dL_law_217 ?_
  refine lv_topi (fun x_17 ex_17 => ?_)
  have es_17 : x_17 = x_6 := by rw [ex_17, ex_6, ex_16, ex_5]
  rw [es_17]
  refine lv_aload_n hx hb dL_law_218 rfl (lv_at hl 0 rfl) ?_
  refine lv_iload hx hb dL_law_219 (lv_at hl 4 rfl) ?_
  refine lv_iconst (v := 4) hx hb dL_law_221 (by decide) ?_
  refine lv_iadd hx hb dL_law_222 ?_
  refine lv_topi (fun x_18 ex_18 => ?_)
  have tx_18 : x_18.toInt = i.toInt + 4 := v_addR (l2 := 4) (h2 := 4) ex_18 hi9 (by decide) (by decide) (by decide)
  refine va_sld hx hb hX hbl hbA hS (v_in (v_sld5 tx_18 hi (by decide))) dL_law_223 ?_
  refine lv_topi (fun x_19 ex_19 => ?_)
  have es_19 : x_19 = x_8 := by rw [ex_19, ex_8, ex_18, ex_7]
  rw [es_19]
  refine lv_aload_n hx hb dL_law_224 rfl (lv_at hl 0 rfl) ?_
  refine lv_iload hx hb dL_law_225 (lv_at hl 4 rfl) ?_
  refine lv_iconst (v := 5) hx hb dL_law_227 (by decide) ?_
  refine lv_iadd hx hb dL_law_228 ?_
  refine lv_topi (fun x_20 ex_20 => ?_)
  have tx_20 : x_20.toInt = i.toInt + 5 := v_addR (l2 := 5) (h2 := 5) ex_20 hi9 (by decide) (by decide) (by decide)
  refine va_sld hx hb hX hbl hbA hS (v_in (v_sld5 tx_20 hi (by decide))) dL_law_229 ?_
  refine lv_topi (fun x_21 ex_21 => ?_)
  have es_21 : x_21 = x_10 := by rw [ex_21, ex_10, ex_20, ex_9]
  rw [es_21]
  refine kV_i (rest := []) (q0 := 0) (ci := 12) hcf (f_X12_feed l dC dI cI cS H.size oM mT mS mX mL mB mD m1 m2 mR x1 x2 x3 mH mY mE mW mO y1 y2 y3 y4 mZ zt zp zf zh zr zc zy za zb zs zq zw ze zn zm zl zk zd eT x_2 x_4 x_6 x_8 x_10 (g_zt) (g_zp) (g_zf) (g_zh) (g_zr) (g_zc) (g_zy) (g_za) (g_zb) (g_zs) (g_zq) (g_zn) (g_zm) (g_zk) (by omega)) kc_X12_feed gL_law_X12_feed rfl rfl rfl ⟨Nat.le_of_ble_eq_true rfl, Nat.le_of_ble_eq_true rfl⟩ kX_t hK hP hD hS hA (posT mk_1 0) (posF mk_1 0) (kC_of mk_1 rfl rfl) (by decide +kernel) rfl rfl rfl hl rfl (Nat.le_of_ble_eq_true rfl) dL_law_230 ⟨kfit2 hn (Nat.le_of_ble_eq_true rfl), ksix2 hn (Nat.le_of_ble_eq_true rfl)⟩ (fun r_22 H locs hB hJ hSn => ?_)
  refine Exists.elim hB (fun ze_22 hB22_0 => ?_)
  refine Exists.elim hB22_0 (fun zt_22 hB22_1 => ?_)
  refine Exists.elim hB22_1 (fun eT_22 hB22_2 => ?_)
  refine And.elim (fun hPD9 hB22_3 => ?_) hB22_2
  refine And.elim (fun hf22_0 hB22_4 => ?_) hB22_3
  refine And.elim (fun hf22_1 hB22_5 => ?_) hB22_4
  have hf22_2 := hB22_5
  clear hB hB22_0 hB22_1 hB22_2 hB22_3 hB22_4 hB22_5
  obtain ⟨hPn, hDn⟩ := kJi (m := mk_1) hJ rfl hPD9.1 hPD9.2 (wn := [(oX, .inr (11, [.ref nT, .ref nL, .ref nM, .ref oC, .ref oP, .ref oH, .ref oK, .ref oG, .ref oR, .ref oQ, .ref oW, .int fa])), (nT, .inr (5, [.ref aT, .int lT_11])), (aT, .inl (cI, 900, .inl fT_11)), (nL, .inr (5, [.ref aL, .int lL])), (aL, .inl (cI, 300, .inl fL)), (nM, .inr (5, [.ref aM, .int lM])), (aM, .inl (cI, 300, .inl fM)), (oC, .inr (2, [.ref o4, .ref o5])), (o4, .inr (10, [.ref a41, .ref a42, .ref a43, .int l4])), (a41, .inl (cI, 256, .inl f41)), (a42, .inl (cI, 512, .inl f42)), (a43, .inl (cI, 512, .inl f43)), (o5, .inr (10, [.ref a51, .ref a52, .ref a53, .int l5])), (a51, .inl (cI, 256, .inl f51)), (a52, .inl (cI, 512, .inl f52)), (a53, .inl (cI, 512, .inl f53)), (oP, .inr (7, [.ref oC, .ref nB, .int ft])), (nB, .inr (5, [.ref aB, .int lB])), (aB, .inl (cI, 2400, .inl fB)), (oH, .inr (4, [.ref oP, .ref h1, .ref h2, .int lH])), (h1, .inl (cI, 6, .inl fH1)), (h2, .inl (cI, 6, .inl fH2)), (oK, .inr (3, [.ref k1, .ref k2, .int lK])), (k1, .inl (cI, 1024, .inl fK1)), (k2, .inl (cI, 1024, .inl fK2)), (oG, .inr (0, [.ref g1, .ref g2, .int gn, .int lG])), (g1, .inl (cI, 6000, .inl fG1)), (g2, .inl (cI, 20, .inl fG2)), (oR, .inr (9, [.ref oH, .ref oK, .ref n1, .ref n2, .ref n3, .ref r1, .ref r2, .ref r3, .ref r4, .ref r5, .ref r6, .int lR])), (n1, .inr (5, [.ref a1, .int l1])), (a1, .inl (cI, 300, .inl f1)), (n2, .inr (5, [.ref a2, .int l2])), (a2, .inl (cI, 300, .inl f2)), (n3, .inr (5, [.ref a3, .int l3])), (a3, .inl (cI, 300, .inl f3)), (r1, .inl (cI, 258, .inl fR1)), (r2, .inl (cI, 258, .inl fR2)), (r3, .inl (cI, 774, .inl fR3)), (r4, .inl (cI, 258, .inl fR4)), (r5, .inl (cI, 258, .inl fR5)), (r6, .inl (cI, 774, .inl fR6)), (oQ, .inr (6, [.ref oC, .ref oH, .ref oK, .ref oE, .ref nq, .ref np, .ref nv, .ref q1, .ref q2, .ref q3, .ref q4, .int pr])), (oE, .inr (8, [.ref oC, .ref oK, .int reE, .int laE, .int suE, .int leE])), (nq, .inr (5, [.ref aq, .int lq])), (aq, .inl (cI, 480, .inl fq)), (np, .inr (5, [.ref ap, .int lp])), (ap, .inl (cI, 300, .inl fp)), (nv, .inr (5, [.ref av, .int lv])), (av, .inl (cI, 300, .inl fv)), (q1, .inl (cI, 61, .inl fQ1)), (q2, .inl (cI, 61, .inl fQ2)), (q3, .inl (cI, 61, .inl fQ3)), (q4, .inl (cI, 61, .inl fQ4)), (oW, .inr (1, [.ref oC, .ref oK, .ref nw, .ref w1, .ref w2, .ref w3, .ref o7, .ref o8, .ref o9, .ref w4, .ref w5, .ref w6, .ref w7, .int ke, .int tl, .int fsh, .int wi, .int ri, .int fm, .int lm])), (nw, .inr (5, [.ref aw, .int lw])), (aw, .inl (cI, 800, .inl fw)), (o7, .inr (8, [.ref oC, .ref oK, .int re7, .int la7, .int su7, .int le7])), (o8, .inr (8, [.ref oC, .ref oK, .int re8, .int la8, .int su8, .int le8])), (o9, .inr (8, [.ref oC, .ref oK, .int re9, .int la9, .int su9, .int le9])), (w1, .inl (cI, 801, .inl fW1)), (w2, .inl (cI, 801, .inl fW2)), (w3, .inl (cI, 801, .inl fW3)), (w4, .inl (cI, 200, .inl fW4)), (w5, .inl (cI, 200, .inl fW5)), (w6, .inl (cI, 200, .inl fW6)), (w7, .inl (cI, 200, .inl fW7)), (oM, .inr (12, [.ref mT, .int zt_22, .ref mS, .ref mX, .int zp, .int zf, .ref mL, .ref mB, .ref mD, .ref m1, .ref m2, .int zh, .ref mR, .int zr, .ref x1, .ref x2, .ref x3, .int zc, .ref mH, .int zy, .int za, .int zb, .int zs, .int zq, .int zw, .int ze_22, .ref mY, .int zn, .ref mE, .int zm, .int zl, .ref mW, .int zk, .ref mO, .int zd, .ref y1, .ref y2, .ref y3, .ref y4, .ref mZ])), (mT, .inl (cI, 900, .inl eT_22)), (mS, .inl (cI, 21, .inl eS)), (mX, .inl (cI, 6300, .inl eX)), (mL, .inl (cI, 512, .inl eL)), (mB, .inl (cS, 131072, .inl eB)), (mD, .inl (cI, 2, .inl eD)), (m1, .inl (cI, 6, .inl e1)), (m2, .inl (cI, 6, .inl e2)), (mR, .inl (cI, 1548, .inl eR)), (x1, .inl (cI, 300, .inl ec1)), (x2, .inl (cI, 300, .inl ec2)), (x3, .inl (cI, 300, .inl ec3)), (mH, .inl (cI, 800, .inl eH)), (mY, .inl (cI, 2600, .inl eY)), (mE, .inl (cI, 2600, .inl eE)), (mW, .inl (cI, 300, .inl eW)), (mO, .inl (cI, 300, .inl eO)), (y1, .inl (cI, 61, .inl er1)), (y2, .inl (cI, 61, .inl er2)), (y3, .inl (cI, 61, .inl er3)), (y4, .inl (cI, 61, .inl er4)), (mZ, .inl (cI, 600, .inl eZ)), (oJ, .inl (cJ, 1, .inr (.inl fJ)))]) rfl
  clear hP hD hS hJ hPD9
  have hP := hPn
  have hD := hDn
  have hS := hSn
  clear hPn hDn hSn
  refine lv_pop hx hb dL_law_233 rfl ?_
  refine lv_goto (tgt := 1022) hx hb dL_law_234 (by decide) ?_
  refine W.widen (k := 90 + (nc + 1)) (n := 172225 + 6 * (nc + 1)) (by omega) (by omega) ?_
  exact kk fa lT_11 lL lM l4 l5 ft lB lH lK gn lG lR l1 l2 l3 pr reE laE suE leE lq lp lv ke tl fsh wi ri fm lm lw re7 la7 su7 le7 re8 la8 su8 le8 re9 la9 su9 le9 zt_22 zp zf zh zr zc zy za zb zs zq zw ze_22 zn zm zl zk zd fT_11 fL fM f41 f42 f43 f51 f52 f53 fB fH1 fH2 fK1 fK2 fG1 fG2 f1 f2 f3 fR1 fR2 fR3 fR4 fR5 fR6 fq fp fv fQ1 fQ2 fQ3 fQ4 fw fW1 fW2 fW3 fW4 fW5 fW6 fW7 eT_22 eS eX eL eB eD e1 e2 eR ec1 ec2 ec3 eH eY eE eW eO er1 er2 er3 er4 eZ fJ _ _ _ ⟨hf11_0, g_lL, g_lM, g_lB, g_lH, g_lK, g_gn, g_lG, g_lR, g_l1, g_l2, g_l3, g_lq, g_lp, g_lv, g_ke, g_fsh, g_fm, g_lm, g_lw, hf22_0, g_zp, g_zf, g_zh, g_zr, g_zc, g_zy, g_za, g_zb, g_zs, g_zq, g_zn, g_zm, g_zk, g_fG2, g_eS, g_eX, g_eL, g_eB, g_e1, g_e2, g_eY, g_eE, g_eW, g_eO, g_eZ, by omega, by show lT_11.toInt = zt_22.toInt; omega, (feed_eq hrel hrc hf11_2 hf22_2).2, hr4, hr5, hb4, hb5, hlz, hH, hHe, hKz, hT, ho, hal, hCV, hVk, hVr, hTX, hCH, hvc, hfr, hfx, hfs⟩ hP hD hS (lv_sub hl [0, 1, 2, 3, 4] rfl)

set_option maxHeartbeats 40000000 in
set_option maxRecDepth 100000 in
theorem law_end {p : Program} {l : Launch} {e : Env} {s : State} {m : MethodId} {below : List Frame} {meth : Method} {c : Code} {dC : Nat → ClassId} {dI : Nat → Nat → Nat} {cI cS cJ : ClassId} {A : Nat → Prop} {b L : Nat} {xs : Nat → Int32} (C0 : lw_At p s m meth c b L xs) (hAd : A = fun q : Nat => s.heap.size ≤ q) (hK3 : va_K (dC, dI) vwCl [(cI, .int), (cS, .short), (cJ, .long)] s) {oX nT aT nL aL nM aM oC o4 a41 a42 a43 o5 a51 a52 a53 oP nB aB oH h1 h2 oK k1 k2 oG g1 g2 oR n1 a1 n2 a2 n3 a3 r1 r2 r3 r4 r5 r6 oQ oE nq aq np ap nv av q1 q2 q3 q4 oW nw aw o7 o8 o9 w1 w2 w3 w4 w5 w6 w7 oM mT mS mX mL mB mD m1 m2 mR x1 x2 x3 mH mY mE mW mO y1 y2 y3 y4 mZ oJ : Nat} {fa : Int32} {lT : Int32} {lL : Int32} {lM : Int32} {l4 : Int32} {l5 : Int32} {ft : Int32} {lB : Int32} {lH : Int32} {lK : Int32} {gn : Int32} {lG : Int32} {lR : Int32} {l1 : Int32} {l2 : Int32} {l3 : Int32} {pr : Int32} {reE : Int32} {laE : Int32} {suE : Int32} {leE : Int32} {lq : Int32} {lp : Int32} {lv : Int32} {ke : Int32} {tl : Int32} {fsh : Int32} {wi : Int32} {ri : Int32} {fm : Int32} {lm : Int32} {lw : Int32} {re7 : Int32} {la7 : Int32} {su7 : Int32} {le7 : Int32} {re8 : Int32} {la8 : Int32} {su8 : Int32} {le8 : Int32} {re9 : Int32} {la9 : Int32} {su9 : Int32} {le9 : Int32} {zt : Int32} {zp : Int32} {zf : Int32} {zh : Int32} {zr : Int32} {zc : Int32} {zy : Int32} {za : Int32} {zb : Int32} {zs : Int32} {zq : Int32} {zw : Int32} {ze : Int32} {zn : Int32} {zm : Int32} {zl : Int32} {zk : Int32} {zd : Int32} {fT : Nat → Int32} {fL : Nat → Int32} {fM : Nat → Int32} {f41 : Nat → Int32} {f42 : Nat → Int32} {f43 : Nat → Int32} {f51 : Nat → Int32} {f52 : Nat → Int32} {f53 : Nat → Int32} {fB : Nat → Int32} {fH1 : Nat → Int32} {fH2 : Nat → Int32} {fK1 : Nat → Int32} {fK2 : Nat → Int32} {fG1 : Nat → Int32} {fG2 : Nat → Int32} {f1 : Nat → Int32} {f2 : Nat → Int32} {f3 : Nat → Int32} {fR1 : Nat → Int32} {fR2 : Nat → Int32} {fR3 : Nat → Int32} {fR4 : Nat → Int32} {fR5 : Nat → Int32} {fR6 : Nat → Int32} {fq : Nat → Int32} {fp : Nat → Int32} {fv : Nat → Int32} {fQ1 : Nat → Int32} {fQ2 : Nat → Int32} {fQ3 : Nat → Int32} {fQ4 : Nat → Int32} {fw : Nat → Int32} {fW1 : Nat → Int32} {fW2 : Nat → Int32} {fW3 : Nat → Int32} {fW4 : Nat → Int32} {fW5 : Nat → Int32} {fW6 : Nat → Int32} {fW7 : Nat → Int32} {eT : Nat → Int32} {eS : Nat → Int32} {eX : Nat → Int32} {eL : Nat → Int32} {eB : Nat → Int32} {eD : Nat → Int32} {e1 : Nat → Int32} {e2 : Nat → Int32} {eR : Nat → Int32} {ec1 : Nat → Int32} {ec2 : Nat → Int32} {ec3 : Nat → Int32} {eH : Nat → Int32} {eY : Nat → Int32} {eE : Nat → Int32} {eW : Nat → Int32} {eO : Nat → Int32} {er1 : Nat → Int32} {er2 : Nat → Int32} {er3 : Nat → Int32} {er4 : Nat → Int32} {eZ : Nat → Int32} {fJ : Nat → Int64} {H : Heap} {locs : List Loc} {ls : Array Slot} {i : Int32} {nc : Nat} (hn : nc ≤ 511) (hi : 0 ≤ i.toInt ∧ i.toInt + 5 < (L : Int)) (hL : L ≤ 3072) (hI : INV nc lT lL lM l4 l5 lB lH lK gn lG lR l1 l2 l3 lq lp lv ke fsh wi ri fm lm lw zt zp zf zh zr zc zy za zb zs zq zn zm zk fT fL f41 f42 f43 f51 f52 f53 fH1 fH2 fK1 fK2 fG1 fG2 fW4 fW5 fW6 fW7 eT eS eX eL eB eD e1 e2 ec1 ec2 ec3 eH eY eE eW eO eZ) (hP : va_P (dC, dI) vwCl (WLD cI cS cJ oX nT aT nL aL nM aM oC o4 a41 a42 a43 o5 a51 a52 a53 oP nB aB oH h1 h2 oK k1 k2 oG g1 g2 oR n1 a1 n2 a2 n3 a3 r1 r2 r3 r4 r5 r6 oQ oE nq aq np ap nv av q1 q2 q3 q4 oW nw aw o7 o8 o9 w1 w2 w3 w4 w5 w6 w7 oM mT mS mX mL mB mD m1 m2 mR x1 x2 x3 mH mY mE mW mO y1 y2 y3 y4 mZ oJ fa lT lL lM l4 l5 ft lB lH lK gn lG lR l1 l2 l3 pr reE laE suE leE lq lp lv ke tl fsh wi ri fm lm lw re7 la7 su7 le7 re8 la8 su8 le8 re9 la9 su9 le9 zt zp zf zh zr zc zy za zb zs zq zw ze zn zm zl zk zd fT fL fM f41 f42 f43 f51 f52 f53 fB fH1 fH2 fK1 fK2 fG1 fG2 f1 f2 f3 fR1 fR2 fR3 fR4 fR5 fR6 fq fp fv fQ1 fQ2 fQ3 fQ4 fw fW1 fW2 fW3 fW4 fW5 fW6 fW7 eT eS eX eL eB eD e1 e2 eR ec1 ec2 ec3 eH eY eE eW eO er1 er2 er3 er4 eZ fJ) H) (hD : va_D A (WLD cI cS cJ oX nT aT nL aL nM aM oC o4 a41 a42 a43 o5 a51 a52 a53 oP nB aB oH h1 h2 oK k1 k2 oG g1 g2 oR n1 a1 n2 a2 n3 a3 r1 r2 r3 r4 r5 r6 oQ oE nq aq np ap nv av q1 q2 q3 q4 oW nw aw o7 o8 o9 w1 w2 w3 w4 w5 w6 w7 oM mT mS mX mL mB mD m1 m2 mR x1 x2 x3 mH mY mE mW mO y1 y2 y3 y4 mZ oJ fa lT lL lM l4 l5 ft lB lH lK gn lG lR l1 l2 l3 pr reE laE suE leE lq lp lv ke tl fsh wi ri fm lm lw re7 la7 su7 le7 re8 la8 su8 le8 re9 la9 su9 le9 zt zp zf zh zr zc zy za zb zs zq zw ze zn zm zl zk zd fT fL fM f41 f42 f43 f51 f52 f53 fB fH1 fH2 fK1 fK2 fG1 fG2 f1 f2 f3 fR1 fR2 fR3 fR4 fR5 fR6 fq fp fv fQ1 fQ2 fQ3 fQ4 fw fW1 fW2 fW3 fW4 fW5 fW6 fW7 eT eS eX eL eB eD e1 e2 eR ec1 ec2 ec3 eH eY eE eW eO er1 er2 er3 er4 eZ fJ)) (hS : va_S A s.heap H locs) (hl : lv_has ls 7 [(0, .ref b), (1, .ref oX), (2, .ref oM), (3, .ref oJ), (4, .int i)]) (kk : KK p l e s m below meth c dC dI cI cS cJ A b oX nT aT nL aL nM aM oC o4 a41 a42 a43 o5 a51 a52 a53 oP nB aB oH h1 h2 oK k1 k2 oG g1 g2 oR n1 a1 n2 a2 n3 a3 r1 r2 r3 r4 r5 r6 oQ oE nq aq np ap nv av q1 q2 q3 q4 oW nw aw o7 o8 o9 w1 w2 w3 w4 w5 w6 w7 oM mT mS mX mL mB mD m1 m2 mR x1 x2 x3 mH mY mE mW mO y1 y2 y3 y4 mZ oJ i nc) : W p l e room_1 s m #[Value.ref b] below meth c H locs (90 + nc) (172225 + 6 * nc) (lw_Z below #[Value.ref b] s) (F0 m 237 ls []) := by
  refine And.elim (fun hx hBC_0 => ?_) C0
  refine And.elim (fun hb hBC_1 => ?_) hBC_0
  refine And.elim (fun hr hBC_2 => ?_) hBC_1
  refine And.elim (fun hml hBC_3 => ?_) hBC_2
  refine And.elim (fun hown hBC_4 => ?_) hBC_3
  refine And.elim (fun hts0 hBC_5 => ?_) hBC_4
  refine And.elim (fun hX hBC_6 => ?_) hBC_5
  refine And.elim (fun hbl hBC_7 => ?_) hBC_6
  refine And.elim (fun hlocks hBC_8 => ?_) hBC_7
  have hgv := hBC_8
  clear hBC_0 hBC_1 hBC_2 hBC_3 hBC_4 hBC_5 hBC_6 hBC_7 hBC_8
  refine And.elim (fun g_lT hBI_0 => ?_) hI
  refine And.elim (fun g_lL hBI_1 => ?_) hBI_0
  refine And.elim (fun g_lM hBI_2 => ?_) hBI_1
  refine And.elim (fun g_lB hBI_3 => ?_) hBI_2
  refine And.elim (fun g_lH hBI_4 => ?_) hBI_3
  refine And.elim (fun g_lK hBI_5 => ?_) hBI_4
  refine And.elim (fun g_gn hBI_6 => ?_) hBI_5
  refine And.elim (fun g_lG hBI_7 => ?_) hBI_6
  refine And.elim (fun g_lR hBI_8 => ?_) hBI_7
  refine And.elim (fun g_l1 hBI_9 => ?_) hBI_8
  refine And.elim (fun g_l2 hBI_10 => ?_) hBI_9
  refine And.elim (fun g_l3 hBI_11 => ?_) hBI_10
  refine And.elim (fun g_lq hBI_12 => ?_) hBI_11
  refine And.elim (fun g_lp hBI_13 => ?_) hBI_12
  refine And.elim (fun g_lv hBI_14 => ?_) hBI_13
  refine And.elim (fun g_ke hBI_15 => ?_) hBI_14
  refine And.elim (fun g_fsh hBI_16 => ?_) hBI_15
  refine And.elim (fun g_fm hBI_17 => ?_) hBI_16
  refine And.elim (fun g_lm hBI_18 => ?_) hBI_17
  refine And.elim (fun g_lw hBI_19 => ?_) hBI_18
  refine And.elim (fun g_zt hBI_20 => ?_) hBI_19
  refine And.elim (fun g_zp hBI_21 => ?_) hBI_20
  refine And.elim (fun g_zf hBI_22 => ?_) hBI_21
  refine And.elim (fun g_zh hBI_23 => ?_) hBI_22
  refine And.elim (fun g_zr hBI_24 => ?_) hBI_23
  refine And.elim (fun g_zc hBI_25 => ?_) hBI_24
  refine And.elim (fun g_zy hBI_26 => ?_) hBI_25
  refine And.elim (fun g_za hBI_27 => ?_) hBI_26
  refine And.elim (fun g_zb hBI_28 => ?_) hBI_27
  refine And.elim (fun g_zs hBI_29 => ?_) hBI_28
  refine And.elim (fun g_zq hBI_30 => ?_) hBI_29
  refine And.elim (fun g_zn hBI_31 => ?_) hBI_30
  refine And.elim (fun g_zm hBI_32 => ?_) hBI_31
  refine And.elim (fun g_zk hBI_33 => ?_) hBI_32
  refine And.elim (fun g_fG2 hBI_34 => ?_) hBI_33
  refine And.elim (fun g_eS hBI_35 => ?_) hBI_34
  refine And.elim (fun g_eX hBI_36 => ?_) hBI_35
  refine And.elim (fun g_eL hBI_37 => ?_) hBI_36
  refine And.elim (fun g_eB hBI_38 => ?_) hBI_37
  refine And.elim (fun g_e1 hBI_39 => ?_) hBI_38
  refine And.elim (fun g_e2 hBI_40 => ?_) hBI_39
  refine And.elim (fun g_eY hBI_41 => ?_) hBI_40
  refine And.elim (fun g_eE hBI_42 => ?_) hBI_41
  refine And.elim (fun g_eW hBI_43 => ?_) hBI_42
  refine And.elim (fun g_eO hBI_44 => ?_) hBI_43
  refine And.elim (fun g_eZ hBI_45 => ?_) hBI_44
  refine And.elim (fun hzn hBI_46 => ?_) hBI_45
  refine And.elim (fun hrel hBI_47 => ?_) hBI_46
  refine And.elim (fun hrc hBI_48 => ?_) hBI_47
  refine And.elim (fun hr4 hBI_49 => ?_) hBI_48
  refine And.elim (fun hr5 hBI_50 => ?_) hBI_49
  refine And.elim (fun hb4 hBI_51 => ?_) hBI_50
  refine And.elim (fun hb5 hBI_52 => ?_) hBI_51
  refine And.elim (fun hlz hBI_53 => ?_) hBI_52
  refine And.elim (fun hH hBI_54 => ?_) hBI_53
  refine And.elim (fun hHe hBI_55 => ?_) hBI_54
  refine And.elim (fun hKz hBI_56 => ?_) hBI_55
  refine And.elim (fun hT hBI_57 => ?_) hBI_56
  refine And.elim (fun ho hBI_58 => ?_) hBI_57
  refine And.elim (fun hal hBI_59 => ?_) hBI_58
  refine And.elim (fun hCV hBI_60 => ?_) hBI_59
  refine And.elim (fun hVk hBI_61 => ?_) hBI_60
  refine And.elim (fun hVr hBI_62 => ?_) hBI_61
  refine And.elim (fun hTX hBI_63 => ?_) hBI_62
  refine And.elim (fun hCH hBI_64 => ?_) hBI_63
  refine And.elim (fun hvc hBI_65 => ?_) hBI_64
  refine And.elim (fun hfr hBI_66 => ?_) hBI_65
  refine And.elim (fun hfx hBI_67 => ?_) hBI_66
  have hfs := hBI_67
  clear hI hBI_0 hBI_1 hBI_2 hBI_3 hBI_4 hBI_5 hBI_6 hBI_7 hBI_8 hBI_9 hBI_10 hBI_11 hBI_12 hBI_13 hBI_14 hBI_15 hBI_16 hBI_17 hBI_18 hBI_19 hBI_20 hBI_21 hBI_22 hBI_23 hBI_24 hBI_25 hBI_26 hBI_27 hBI_28 hBI_29 hBI_30 hBI_31 hBI_32 hBI_33 hBI_34 hBI_35 hBI_36 hBI_37 hBI_38 hBI_39 hBI_40 hBI_41 hBI_42 hBI_43 hBI_44 hBI_45 hBI_46 hBI_47 hBI_48 hBI_49 hBI_50 hBI_51 hBI_52 hBI_53 hBI_54 hBI_55 hBI_56 hBI_57 hBI_58 hBI_59 hBI_60 hBI_61 hBI_62 hBI_63 hBI_64 hBI_65 hBI_66 hBI_67
  have hK : va_K (dC, dI) vwCl [(cI, .int), (cS, .short)] s := hK3.sub [0, 1] rfl
  have hown : s.vm.findClass RL = some m.cls := hown
  have hts := hts0
  have hcf := k_cf hx hb hml hown hts
  have hi9 : 0 ≤ i.toInt ∧ i.toInt ≤ 3066 := by omega
  have hzs : zs.toInt ≤ 1000000 := by omega
  have hA : ∀ q : Nat, s.heap.size ≤ q → A q := fun q h => by rw [hAd]; exact h
  have hbA : ¬ A b := by rw [hAd]; exact Nat.not_le.mpr hbl
  have hP : va_P (dC, dI) vwCl [(oX, .inr (11, [.ref nT, .ref nL, .ref nM, .ref oC, .ref oP, .ref oH, .ref oK, .ref oG, .ref oR, .ref oQ, .ref oW, .int fa])), (nT, .inr (5, [.ref aT, .int lT])), (aT, .inl (cI, 900, .inl fT)), (nL, .inr (5, [.ref aL, .int lL])), (aL, .inl (cI, 300, .inl fL)), (nM, .inr (5, [.ref aM, .int lM])), (aM, .inl (cI, 300, .inl fM)), (oC, .inr (2, [.ref o4, .ref o5])), (o4, .inr (10, [.ref a41, .ref a42, .ref a43, .int l4])), (a41, .inl (cI, 256, .inl f41)), (a42, .inl (cI, 512, .inl f42)), (a43, .inl (cI, 512, .inl f43)), (o5, .inr (10, [.ref a51, .ref a52, .ref a53, .int l5])), (a51, .inl (cI, 256, .inl f51)), (a52, .inl (cI, 512, .inl f52)), (a53, .inl (cI, 512, .inl f53)), (oP, .inr (7, [.ref oC, .ref nB, .int ft])), (nB, .inr (5, [.ref aB, .int lB])), (aB, .inl (cI, 2400, .inl fB)), (oH, .inr (4, [.ref oP, .ref h1, .ref h2, .int lH])), (h1, .inl (cI, 6, .inl fH1)), (h2, .inl (cI, 6, .inl fH2)), (oK, .inr (3, [.ref k1, .ref k2, .int lK])), (k1, .inl (cI, 1024, .inl fK1)), (k2, .inl (cI, 1024, .inl fK2)), (oG, .inr (0, [.ref g1, .ref g2, .int gn, .int lG])), (g1, .inl (cI, 6000, .inl fG1)), (g2, .inl (cI, 20, .inl fG2)), (oR, .inr (9, [.ref oH, .ref oK, .ref n1, .ref n2, .ref n3, .ref r1, .ref r2, .ref r3, .ref r4, .ref r5, .ref r6, .int lR])), (n1, .inr (5, [.ref a1, .int l1])), (a1, .inl (cI, 300, .inl f1)), (n2, .inr (5, [.ref a2, .int l2])), (a2, .inl (cI, 300, .inl f2)), (n3, .inr (5, [.ref a3, .int l3])), (a3, .inl (cI, 300, .inl f3)), (r1, .inl (cI, 258, .inl fR1)), (r2, .inl (cI, 258, .inl fR2)), (r3, .inl (cI, 774, .inl fR3)), (r4, .inl (cI, 258, .inl fR4)), (r5, .inl (cI, 258, .inl fR5)), (r6, .inl (cI, 774, .inl fR6)), (oQ, .inr (6, [.ref oC, .ref oH, .ref oK, .ref oE, .ref nq, .ref np, .ref nv, .ref q1, .ref q2, .ref q3, .ref q4, .int pr])), (oE, .inr (8, [.ref oC, .ref oK, .int reE, .int laE, .int suE, .int leE])), (nq, .inr (5, [.ref aq, .int lq])), (aq, .inl (cI, 480, .inl fq)), (np, .inr (5, [.ref ap, .int lp])), (ap, .inl (cI, 300, .inl fp)), (nv, .inr (5, [.ref av, .int lv])), (av, .inl (cI, 300, .inl fv)), (q1, .inl (cI, 61, .inl fQ1)), (q2, .inl (cI, 61, .inl fQ2)), (q3, .inl (cI, 61, .inl fQ3)), (q4, .inl (cI, 61, .inl fQ4)), (oW, .inr (1, [.ref oC, .ref oK, .ref nw, .ref w1, .ref w2, .ref w3, .ref o7, .ref o8, .ref o9, .ref w4, .ref w5, .ref w6, .ref w7, .int ke, .int tl, .int fsh, .int wi, .int ri, .int fm, .int lm])), (nw, .inr (5, [.ref aw, .int lw])), (aw, .inl (cI, 800, .inl fw)), (o7, .inr (8, [.ref oC, .ref oK, .int re7, .int la7, .int su7, .int le7])), (o8, .inr (8, [.ref oC, .ref oK, .int re8, .int la8, .int su8, .int le8])), (o9, .inr (8, [.ref oC, .ref oK, .int re9, .int la9, .int su9, .int le9])), (w1, .inl (cI, 801, .inl fW1)), (w2, .inl (cI, 801, .inl fW2)), (w3, .inl (cI, 801, .inl fW3)), (w4, .inl (cI, 200, .inl fW4)), (w5, .inl (cI, 200, .inl fW5)), (w6, .inl (cI, 200, .inl fW6)), (w7, .inl (cI, 200, .inl fW7)), (oM, .inr (12, [.ref mT, .int zt, .ref mS, .ref mX, .int zp, .int zf, .ref mL, .ref mB, .ref mD, .ref m1, .ref m2, .int zh, .ref mR, .int zr, .ref x1, .ref x2, .ref x3, .int zc, .ref mH, .int zy, .int za, .int zb, .int zs, .int zq, .int zw, .int ze, .ref mY, .int zn, .ref mE, .int zm, .int zl, .ref mW, .int zk, .ref mO, .int zd, .ref y1, .ref y2, .ref y3, .ref y4, .ref mZ])), (mT, .inl (cI, 900, .inl eT)), (mS, .inl (cI, 21, .inl eS)), (mX, .inl (cI, 6300, .inl eX)), (mL, .inl (cI, 512, .inl eL)), (mB, .inl (cS, 131072, .inl eB)), (mD, .inl (cI, 2, .inl eD)), (m1, .inl (cI, 6, .inl e1)), (m2, .inl (cI, 6, .inl e2)), (mR, .inl (cI, 1548, .inl eR)), (x1, .inl (cI, 300, .inl ec1)), (x2, .inl (cI, 300, .inl ec2)), (x3, .inl (cI, 300, .inl ec3)), (mH, .inl (cI, 800, .inl eH)), (mY, .inl (cI, 2600, .inl eY)), (mE, .inl (cI, 2600, .inl eE)), (mW, .inl (cI, 300, .inl eW)), (mO, .inl (cI, 300, .inl eO)), (y1, .inl (cI, 61, .inl er1)), (y2, .inl (cI, 61, .inl er2)), (y3, .inl (cI, 61, .inl er3)), (y4, .inl (cI, 61, .inl er4)), (mZ, .inl (cI, 600, .inl eZ)), (oJ, .inl (cJ, 1, .inr (.inl fJ)))] H := hP
  have hD : va_D A [(oX, .inr (11, [.ref nT, .ref nL, .ref nM, .ref oC, .ref oP, .ref oH, .ref oK, .ref oG, .ref oR, .ref oQ, .ref oW, .int fa])), (nT, .inr (5, [.ref aT, .int lT])), (aT, .inl (cI, 900, .inl fT)), (nL, .inr (5, [.ref aL, .int lL])), (aL, .inl (cI, 300, .inl fL)), (nM, .inr (5, [.ref aM, .int lM])), (aM, .inl (cI, 300, .inl fM)), (oC, .inr (2, [.ref o4, .ref o5])), (o4, .inr (10, [.ref a41, .ref a42, .ref a43, .int l4])), (a41, .inl (cI, 256, .inl f41)), (a42, .inl (cI, 512, .inl f42)), (a43, .inl (cI, 512, .inl f43)), (o5, .inr (10, [.ref a51, .ref a52, .ref a53, .int l5])), (a51, .inl (cI, 256, .inl f51)), (a52, .inl (cI, 512, .inl f52)), (a53, .inl (cI, 512, .inl f53)), (oP, .inr (7, [.ref oC, .ref nB, .int ft])), (nB, .inr (5, [.ref aB, .int lB])), (aB, .inl (cI, 2400, .inl fB)), (oH, .inr (4, [.ref oP, .ref h1, .ref h2, .int lH])), (h1, .inl (cI, 6, .inl fH1)), (h2, .inl (cI, 6, .inl fH2)), (oK, .inr (3, [.ref k1, .ref k2, .int lK])), (k1, .inl (cI, 1024, .inl fK1)), (k2, .inl (cI, 1024, .inl fK2)), (oG, .inr (0, [.ref g1, .ref g2, .int gn, .int lG])), (g1, .inl (cI, 6000, .inl fG1)), (g2, .inl (cI, 20, .inl fG2)), (oR, .inr (9, [.ref oH, .ref oK, .ref n1, .ref n2, .ref n3, .ref r1, .ref r2, .ref r3, .ref r4, .ref r5, .ref r6, .int lR])), (n1, .inr (5, [.ref a1, .int l1])), (a1, .inl (cI, 300, .inl f1)), (n2, .inr (5, [.ref a2, .int l2])), (a2, .inl (cI, 300, .inl f2)), (n3, .inr (5, [.ref a3, .int l3])), (a3, .inl (cI, 300, .inl f3)), (r1, .inl (cI, 258, .inl fR1)), (r2, .inl (cI, 258, .inl fR2)), (r3, .inl (cI, 774, .inl fR3)), (r4, .inl (cI, 258, .inl fR4)), (r5, .inl (cI, 258, .inl fR5)), (r6, .inl (cI, 774, .inl fR6)), (oQ, .inr (6, [.ref oC, .ref oH, .ref oK, .ref oE, .ref nq, .ref np, .ref nv, .ref q1, .ref q2, .ref q3, .ref q4, .int pr])), (oE, .inr (8, [.ref oC, .ref oK, .int reE, .int laE, .int suE, .int leE])), (nq, .inr (5, [.ref aq, .int lq])), (aq, .inl (cI, 480, .inl fq)), (np, .inr (5, [.ref ap, .int lp])), (ap, .inl (cI, 300, .inl fp)), (nv, .inr (5, [.ref av, .int lv])), (av, .inl (cI, 300, .inl fv)), (q1, .inl (cI, 61, .inl fQ1)), (q2, .inl (cI, 61, .inl fQ2)), (q3, .inl (cI, 61, .inl fQ3)), (q4, .inl (cI, 61, .inl fQ4)), (oW, .inr (1, [.ref oC, .ref oK, .ref nw, .ref w1, .ref w2, .ref w3, .ref o7, .ref o8, .ref o9, .ref w4, .ref w5, .ref w6, .ref w7, .int ke, .int tl, .int fsh, .int wi, .int ri, .int fm, .int lm])), (nw, .inr (5, [.ref aw, .int lw])), (aw, .inl (cI, 800, .inl fw)), (o7, .inr (8, [.ref oC, .ref oK, .int re7, .int la7, .int su7, .int le7])), (o8, .inr (8, [.ref oC, .ref oK, .int re8, .int la8, .int su8, .int le8])), (o9, .inr (8, [.ref oC, .ref oK, .int re9, .int la9, .int su9, .int le9])), (w1, .inl (cI, 801, .inl fW1)), (w2, .inl (cI, 801, .inl fW2)), (w3, .inl (cI, 801, .inl fW3)), (w4, .inl (cI, 200, .inl fW4)), (w5, .inl (cI, 200, .inl fW5)), (w6, .inl (cI, 200, .inl fW6)), (w7, .inl (cI, 200, .inl fW7)), (oM, .inr (12, [.ref mT, .int zt, .ref mS, .ref mX, .int zp, .int zf, .ref mL, .ref mB, .ref mD, .ref m1, .ref m2, .int zh, .ref mR, .int zr, .ref x1, .ref x2, .ref x3, .int zc, .ref mH, .int zy, .int za, .int zb, .int zs, .int zq, .int zw, .int ze, .ref mY, .int zn, .ref mE, .int zm, .int zl, .ref mW, .int zk, .ref mO, .int zd, .ref y1, .ref y2, .ref y3, .ref y4, .ref mZ])), (mT, .inl (cI, 900, .inl eT)), (mS, .inl (cI, 21, .inl eS)), (mX, .inl (cI, 6300, .inl eX)), (mL, .inl (cI, 512, .inl eL)), (mB, .inl (cS, 131072, .inl eB)), (mD, .inl (cI, 2, .inl eD)), (m1, .inl (cI, 6, .inl e1)), (m2, .inl (cI, 6, .inl e2)), (mR, .inl (cI, 1548, .inl eR)), (x1, .inl (cI, 300, .inl ec1)), (x2, .inl (cI, 300, .inl ec2)), (x3, .inl (cI, 300, .inl ec3)), (mH, .inl (cI, 800, .inl eH)), (mY, .inl (cI, 2600, .inl eY)), (mE, .inl (cI, 2600, .inl eE)), (mW, .inl (cI, 300, .inl eW)), (mO, .inl (cI, 300, .inl eO)), (y1, .inl (cI, 61, .inl er1)), (y2, .inl (cI, 61, .inl er2)), (y3, .inl (cI, 61, .inl er3)), (y4, .inl (cI, 61, .inl er4)), (mZ, .inl (cI, 600, .inl eZ)), (oJ, .inl (cJ, 1, .inr (.inl fJ)))] := hD
  replace g_lM := hid g_lM
  replace g_lB := hid g_lB
  replace g_lR := hid g_lR
  replace g_l1 := hid g_l1
  replace g_l2 := hid g_l2
  replace g_l3 := hid g_l3
  replace g_lq := hid g_lq
  replace g_lp := hid g_lp
  replace g_lv := hid g_lv
  replace g_fm := hid g_fm
  replace g_lm := hid g_lm
  replace g_lw := hid g_lw
  replace g_zr := hid g_zr
  replace g_zn := hid g_zn
  replace g_zm := hid g_zm
  replace g_zk := hid g_zk
  refine lv_aload_n hx hb dL_law_237 rfl (lv_at hl 1 rfl) ?_
  refine lv_aload_n hx hb dL_law_238 rfl (lv_at hl 0 rfl) ?_
  refine lv_iload hx hb dL_law_239 (lv_at hl 4 rfl) ?_
  refine lv_iconst (v := 1) hx hb dL_law_241 (by decide) ?_
  refine lv_iadd hx hb dL_law_242 ?_
  refine lv_topi (fun x_1 ex_1 => ?_)
  have tx_1 : x_1.toInt = i.toInt + 1 := v_addR (l2 := 1) (h2 := 1) ex_1 hi9 (by decide) (by decide) (by decide)
  refine va_sld hx hb hX hbl hbA hS (v_in (v_sld5 tx_1 hi (by decide))) dL_law_243 ?_
  refine lv_topi (fun x_2 ex_2 => ?_)
  refine kV_i (rest := []) (q0 := 0) (ci := 11) hcf (x_end l dC dI cI cS H.size oX nT nL nM oC oP oH oK oG oR oQ oW aT fa lT x_2 (g_lT)) kc_X11_end gL_law_X11_end rfl rfl rfl ⟨Nat.le_of_ble_eq_true rfl, Nat.le_of_ble_eq_true rfl⟩ kX_t hK hP hD hS hA (posT mk_2 0) (posF mk_2 0) (kC_of mk_2 rfl rfl) (by decide +kernel) rfl rfl rfl hl rfl (Nat.le_of_ble_eq_true rfl) dL_law_244 ⟨kfit1 hn (Nat.le_of_ble_eq_true rfl), ksix1 hn (Nat.le_of_ble_eq_true rfl)⟩ (fun r_3 H locs hB hJ hSn => ?_)
  refine Exists.elim hB (fun lT_3 hB3_0 => ?_)
  refine And.elim (fun hPD9 hB3_1 => ?_) hB3_0
  refine And.elim (fun hf3_0 hB3_2 => ?_) hB3_1
  have hf3_1 := hB3_2
  clear hB hB3_0 hB3_1 hB3_2
  obtain ⟨hPn, hDn⟩ := kJi (m := mk_2) hJ rfl hPD9.1 hPD9.2 (wn := [(oX, .inr (11, [.ref nT, .ref nL, .ref nM, .ref oC, .ref oP, .ref oH, .ref oK, .ref oG, .ref oR, .ref oQ, .ref oW, .int fa])), (nT, .inr (5, [.ref aT, .int lT_3])), (aT, .inl (cI, 900, .inl fT)), (nL, .inr (5, [.ref aL, .int lL])), (aL, .inl (cI, 300, .inl fL)), (nM, .inr (5, [.ref aM, .int lM])), (aM, .inl (cI, 300, .inl fM)), (oC, .inr (2, [.ref o4, .ref o5])), (o4, .inr (10, [.ref a41, .ref a42, .ref a43, .int l4])), (a41, .inl (cI, 256, .inl f41)), (a42, .inl (cI, 512, .inl f42)), (a43, .inl (cI, 512, .inl f43)), (o5, .inr (10, [.ref a51, .ref a52, .ref a53, .int l5])), (a51, .inl (cI, 256, .inl f51)), (a52, .inl (cI, 512, .inl f52)), (a53, .inl (cI, 512, .inl f53)), (oP, .inr (7, [.ref oC, .ref nB, .int ft])), (nB, .inr (5, [.ref aB, .int lB])), (aB, .inl (cI, 2400, .inl fB)), (oH, .inr (4, [.ref oP, .ref h1, .ref h2, .int lH])), (h1, .inl (cI, 6, .inl fH1)), (h2, .inl (cI, 6, .inl fH2)), (oK, .inr (3, [.ref k1, .ref k2, .int lK])), (k1, .inl (cI, 1024, .inl fK1)), (k2, .inl (cI, 1024, .inl fK2)), (oG, .inr (0, [.ref g1, .ref g2, .int gn, .int lG])), (g1, .inl (cI, 6000, .inl fG1)), (g2, .inl (cI, 20, .inl fG2)), (oR, .inr (9, [.ref oH, .ref oK, .ref n1, .ref n2, .ref n3, .ref r1, .ref r2, .ref r3, .ref r4, .ref r5, .ref r6, .int lR])), (n1, .inr (5, [.ref a1, .int l1])), (a1, .inl (cI, 300, .inl f1)), (n2, .inr (5, [.ref a2, .int l2])), (a2, .inl (cI, 300, .inl f2)), (n3, .inr (5, [.ref a3, .int l3])), (a3, .inl (cI, 300, .inl f3)), (r1, .inl (cI, 258, .inl fR1)), (r2, .inl (cI, 258, .inl fR2)), (r3, .inl (cI, 774, .inl fR3)), (r4, .inl (cI, 258, .inl fR4)), (r5, .inl (cI, 258, .inl fR5)), (r6, .inl (cI, 774, .inl fR6)), (oQ, .inr (6, [.ref oC, .ref oH, .ref oK, .ref oE, .ref nq, .ref np, .ref nv, .ref q1, .ref q2, .ref q3, .ref q4, .int pr])), (oE, .inr (8, [.ref oC, .ref oK, .int reE, .int laE, .int suE, .int leE])), (nq, .inr (5, [.ref aq, .int lq])), (aq, .inl (cI, 480, .inl fq)), (np, .inr (5, [.ref ap, .int lp])), (ap, .inl (cI, 300, .inl fp)), (nv, .inr (5, [.ref av, .int lv])), (av, .inl (cI, 300, .inl fv)), (q1, .inl (cI, 61, .inl fQ1)), (q2, .inl (cI, 61, .inl fQ2)), (q3, .inl (cI, 61, .inl fQ3)), (q4, .inl (cI, 61, .inl fQ4)), (oW, .inr (1, [.ref oC, .ref oK, .ref nw, .ref w1, .ref w2, .ref w3, .ref o7, .ref o8, .ref o9, .ref w4, .ref w5, .ref w6, .ref w7, .int ke, .int tl, .int fsh, .int wi, .int ri, .int fm, .int lm])), (nw, .inr (5, [.ref aw, .int lw])), (aw, .inl (cI, 800, .inl fw)), (o7, .inr (8, [.ref oC, .ref oK, .int re7, .int la7, .int su7, .int le7])), (o8, .inr (8, [.ref oC, .ref oK, .int re8, .int la8, .int su8, .int le8])), (o9, .inr (8, [.ref oC, .ref oK, .int re9, .int la9, .int su9, .int le9])), (w1, .inl (cI, 801, .inl fW1)), (w2, .inl (cI, 801, .inl fW2)), (w3, .inl (cI, 801, .inl fW3)), (w4, .inl (cI, 200, .inl fW4)), (w5, .inl (cI, 200, .inl fW5)), (w6, .inl (cI, 200, .inl fW6)), (w7, .inl (cI, 200, .inl fW7)), (oM, .inr (12, [.ref mT, .int zt, .ref mS, .ref mX, .int zp, .int zf, .ref mL, .ref mB, .ref mD, .ref m1, .ref m2, .int zh, .ref mR, .int zr, .ref x1, .ref x2, .ref x3, .int zc, .ref mH, .int zy, .int za, .int zb, .int zs, .int zq, .int zw, .int ze, .ref mY, .int zn, .ref mE, .int zm, .int zl, .ref mW, .int zk, .ref mO, .int zd, .ref y1, .ref y2, .ref y3, .ref y4, .ref mZ])), (mT, .inl (cI, 900, .inl eT)), (mS, .inl (cI, 21, .inl eS)), (mX, .inl (cI, 6300, .inl eX)), (mL, .inl (cI, 512, .inl eL)), (mB, .inl (cS, 131072, .inl eB)), (mD, .inl (cI, 2, .inl eD)), (m1, .inl (cI, 6, .inl e1)), (m2, .inl (cI, 6, .inl e2)), (mR, .inl (cI, 1548, .inl eR)), (x1, .inl (cI, 300, .inl ec1)), (x2, .inl (cI, 300, .inl ec2)), (x3, .inl (cI, 300, .inl ec3)), (mH, .inl (cI, 800, .inl eH)), (mY, .inl (cI, 2600, .inl eY)), (mE, .inl (cI, 2600, .inl eE)), (mW, .inl (cI, 300, .inl eW)), (mO, .inl (cI, 300, .inl eO)), (y1, .inl (cI, 61, .inl er1)), (y2, .inl (cI, 61, .inl er2)), (y3, .inl (cI, 61, .inl er3)), (y4, .inl (cI, 61, .inl er4)), (mZ, .inl (cI, 600, .inl eZ)), (oJ, .inl (cJ, 1, .inr (.inl fJ)))]) rfl
  clear hP hD hS hJ hPD9
  have hP := hPn
  have hD := hDn
  have hS := hSn
  clear hPn hDn hSn
  refine lv_pop hx hb dL_law_247 rfl ?_
  refine lv_aload_n hx hb dL_law_248 rfl (lv_at hl 2 rfl) ?_
  refine lv_aload_n hx hb dL_law_249 rfl (lv_at hl 0 rfl) ?_
  refine lv_iload hx hb dL_law_250 (lv_at hl 4 rfl) ?_
  refine lv_iconst (v := 1) hx hb dL_law_252 (by decide) ?_
  refine lv_iadd hx hb dL_law_253 ?_
  refine lv_topi (fun x_4 ex_4 => ?_)
  have tx_4 : x_4.toInt = i.toInt + 1 := v_addR (l2 := 1) (h2 := 1) ex_4 hi9 (by decide) (by decide) (by decide)
  refine va_sld hx hb hX hbl hbA hS (v_in (v_sld5 tx_4 hi (by decide))) dL_law_254 ?_
  refine lv_topi (fun x_5 ex_5 => ?_)
  have es_5 : x_5 = x_2 := by rw [ex_5, ex_2, ex_4, ex_1]
  rw [es_5]
  refine kV_i (rest := []) (q0 := 0) (ci := 12) hcf (y_end l dC dI cI cS H.size oM mT mS mX mL mB mD m1 m2 mR x1 x2 x3 mH mY mE mW mO y1 y2 y3 y4 mZ zt zp zf zh zr zc zy za zb zs zq zw ze zn zm zl zk zd x_2 (g_zt) (g_zp) (g_zf) (g_zh) (g_zr) (g_zc) (g_zy) (g_za) (g_zb) (g_zs) (g_zq) (g_zn) (g_zm) (g_zk) (by omega)) kc_X12_end gL_law_X12_end rfl rfl rfl ⟨Nat.le_of_ble_eq_true rfl, Nat.le_of_ble_eq_true rfl⟩ kX_t hK hP hD hS hA (posT mk_3 0) (posF mk_3 0) (kC_of mk_3 rfl rfl) (by decide +kernel) rfl rfl rfl hl rfl (Nat.le_of_ble_eq_true rfl) dL_law_255 ⟨kfit2 hn (Nat.le_of_ble_eq_true rfl), ksix2 hn (Nat.le_of_ble_eq_true rfl)⟩ (fun r_6 H locs hB hJ hSn => ?_)
  refine Exists.elim hB (fun ze_6 hB6_0 => ?_)
  refine Exists.elim hB6_0 (fun zt_6 hB6_1 => ?_)
  refine And.elim (fun hPD9 hB6_2 => ?_) hB6_1
  refine And.elim (fun hf6_0 hB6_3 => ?_) hB6_2
  have hf6_1 := hB6_3
  clear hB hB6_0 hB6_1 hB6_2 hB6_3
  obtain ⟨hPn, hDn⟩ := kJi (m := mk_3) hJ rfl hPD9.1 hPD9.2 (wn := [(oX, .inr (11, [.ref nT, .ref nL, .ref nM, .ref oC, .ref oP, .ref oH, .ref oK, .ref oG, .ref oR, .ref oQ, .ref oW, .int fa])), (nT, .inr (5, [.ref aT, .int lT_3])), (aT, .inl (cI, 900, .inl fT)), (nL, .inr (5, [.ref aL, .int lL])), (aL, .inl (cI, 300, .inl fL)), (nM, .inr (5, [.ref aM, .int lM])), (aM, .inl (cI, 300, .inl fM)), (oC, .inr (2, [.ref o4, .ref o5])), (o4, .inr (10, [.ref a41, .ref a42, .ref a43, .int l4])), (a41, .inl (cI, 256, .inl f41)), (a42, .inl (cI, 512, .inl f42)), (a43, .inl (cI, 512, .inl f43)), (o5, .inr (10, [.ref a51, .ref a52, .ref a53, .int l5])), (a51, .inl (cI, 256, .inl f51)), (a52, .inl (cI, 512, .inl f52)), (a53, .inl (cI, 512, .inl f53)), (oP, .inr (7, [.ref oC, .ref nB, .int ft])), (nB, .inr (5, [.ref aB, .int lB])), (aB, .inl (cI, 2400, .inl fB)), (oH, .inr (4, [.ref oP, .ref h1, .ref h2, .int lH])), (h1, .inl (cI, 6, .inl fH1)), (h2, .inl (cI, 6, .inl fH2)), (oK, .inr (3, [.ref k1, .ref k2, .int lK])), (k1, .inl (cI, 1024, .inl fK1)), (k2, .inl (cI, 1024, .inl fK2)), (oG, .inr (0, [.ref g1, .ref g2, .int gn, .int lG])), (g1, .inl (cI, 6000, .inl fG1)), (g2, .inl (cI, 20, .inl fG2)), (oR, .inr (9, [.ref oH, .ref oK, .ref n1, .ref n2, .ref n3, .ref r1, .ref r2, .ref r3, .ref r4, .ref r5, .ref r6, .int lR])), (n1, .inr (5, [.ref a1, .int l1])), (a1, .inl (cI, 300, .inl f1)), (n2, .inr (5, [.ref a2, .int l2])), (a2, .inl (cI, 300, .inl f2)), (n3, .inr (5, [.ref a3, .int l3])), (a3, .inl (cI, 300, .inl f3)), (r1, .inl (cI, 258, .inl fR1)), (r2, .inl (cI, 258, .inl fR2)), (r3, .inl (cI, 774, .inl fR3)), (r4, .inl (cI, 258, .inl fR4)), (r5, .inl (cI, 258, .inl fR5)), (r6, .inl (cI, 774, .inl fR6)), (oQ, .inr (6, [.ref oC, .ref oH, .ref oK, .ref oE, .ref nq, .ref np, .ref nv, .ref q1, .ref q2, .ref q3, .ref q4, .int pr])), (oE, .inr (8, [.ref oC, .ref oK, .int reE, .int laE, .int suE, .int leE])), (nq, .inr (5, [.ref aq, .int lq])), (aq, .inl (cI, 480, .inl fq)), (np, .inr (5, [.ref ap, .int lp])), (ap, .inl (cI, 300, .inl fp)), (nv, .inr (5, [.ref av, .int lv])), (av, .inl (cI, 300, .inl fv)), (q1, .inl (cI, 61, .inl fQ1)), (q2, .inl (cI, 61, .inl fQ2)), (q3, .inl (cI, 61, .inl fQ3)), (q4, .inl (cI, 61, .inl fQ4)), (oW, .inr (1, [.ref oC, .ref oK, .ref nw, .ref w1, .ref w2, .ref w3, .ref o7, .ref o8, .ref o9, .ref w4, .ref w5, .ref w6, .ref w7, .int ke, .int tl, .int fsh, .int wi, .int ri, .int fm, .int lm])), (nw, .inr (5, [.ref aw, .int lw])), (aw, .inl (cI, 800, .inl fw)), (o7, .inr (8, [.ref oC, .ref oK, .int re7, .int la7, .int su7, .int le7])), (o8, .inr (8, [.ref oC, .ref oK, .int re8, .int la8, .int su8, .int le8])), (o9, .inr (8, [.ref oC, .ref oK, .int re9, .int la9, .int su9, .int le9])), (w1, .inl (cI, 801, .inl fW1)), (w2, .inl (cI, 801, .inl fW2)), (w3, .inl (cI, 801, .inl fW3)), (w4, .inl (cI, 200, .inl fW4)), (w5, .inl (cI, 200, .inl fW5)), (w6, .inl (cI, 200, .inl fW6)), (w7, .inl (cI, 200, .inl fW7)), (oM, .inr (12, [.ref mT, .int zt_6, .ref mS, .ref mX, .int zp, .int zf, .ref mL, .ref mB, .ref mD, .ref m1, .ref m2, .int zh, .ref mR, .int zr, .ref x1, .ref x2, .ref x3, .int zc, .ref mH, .int zy, .int za, .int zb, .int zs, .int zq, .int zw, .int ze_6, .ref mY, .int zn, .ref mE, .int zm, .int zl, .ref mW, .int zk, .ref mO, .int zd, .ref y1, .ref y2, .ref y3, .ref y4, .ref mZ])), (mT, .inl (cI, 900, .inl eT)), (mS, .inl (cI, 21, .inl eS)), (mX, .inl (cI, 6300, .inl eX)), (mL, .inl (cI, 512, .inl eL)), (mB, .inl (cS, 131072, .inl eB)), (mD, .inl (cI, 2, .inl eD)), (m1, .inl (cI, 6, .inl e1)), (m2, .inl (cI, 6, .inl e2)), (mR, .inl (cI, 1548, .inl eR)), (x1, .inl (cI, 300, .inl ec1)), (x2, .inl (cI, 300, .inl ec2)), (x3, .inl (cI, 300, .inl ec3)), (mH, .inl (cI, 800, .inl eH)), (mY, .inl (cI, 2600, .inl eY)), (mE, .inl (cI, 2600, .inl eE)), (mW, .inl (cI, 300, .inl eW)), (mO, .inl (cI, 300, .inl eO)), (y1, .inl (cI, 61, .inl er1)), (y2, .inl (cI, 61, .inl er2)), (y3, .inl (cI, 61, .inl er3)), (y4, .inl (cI, 61, .inl er4)), (mZ, .inl (cI, 600, .inl eZ)), (oJ, .inl (cJ, 1, .inr (.inl fJ)))]) rfl
  clear hP hD hS hJ hPD9
  have hP := hPn
  have hD := hDn
  have hS := hSn
  clear hPn hDn hSn
  refine lv_pop hx hb dL_law_258 rfl ?_
  refine lv_goto (tgt := 1022) hx hb dL_law_259 (by decide) ?_
  refine W.widen (k := 90 + (nc + 1)) (n := 172225 + 6 * (nc + 1)) (by omega) (by omega) ?_
  exact kk fa lT_3 lL lM l4 l5 ft lB lH lK gn lG lR l1 l2 l3 pr reE laE suE leE lq lp lv ke tl fsh wi ri fm lm lw re7 la7 su7 le7 re8 la8 su8 le8 re9 la9 su9 le9 zt_6 zp zf zh zr zc zy za zb zs zq zw ze_6 zn zm zl zk zd fT fL fM f41 f42 f43 f51 f52 f53 fB fH1 fH2 fK1 fK2 fG1 fG2 f1 f2 f3 fR1 fR2 fR3 fR4 fR5 fR6 fq fp fv fQ1 fQ2 fQ3 fQ4 fw fW1 fW2 fW3 fW4 fW5 fW6 fW7 eT eS eX eL eB eD e1 e2 eR ec1 ec2 ec3 eH eY eE eW eO er1 er2 er3 er4 eZ fJ _ _ _ ⟨hf3_0, g_lL, g_lM, g_lB, g_lH, g_lK, g_gn, g_lG, g_lR, g_l1, g_l2, g_l3, g_lq, g_lp, g_lv, g_ke, g_fsh, g_fm, g_lm, g_lw, hf6_0, g_zp, g_zf, g_zh, g_zr, g_zc, g_zy, g_za, g_zb, g_zs, g_zq, g_zn, g_zm, g_zk, g_fG2, g_eS, g_eX, g_eL, g_eB, g_e1, g_e2, g_eY, g_eE, g_eW, g_eO, g_eZ, by omega, by show lT_3.toInt = zt_6.toInt; omega, eqT_le hrc (by omega), hr4, hr5, hb4, hb5, hlz, hH, hHe, hKz, hT, ho, hal, hCV, hVk, hVr, hTX, hCH, hvc, hfr, hfx, hfs⟩ hP hD hS (lv_sub hl [0, 1, 2, 3, 4] rfl)

set_option maxHeartbeats 40000000 in
set_option maxRecDepth 100000 in
theorem law_text {p : Program} {l : Launch} {e : Env} {s : State} {m : MethodId} {below : List Frame} {meth : Method} {c : Code} {dC : Nat → ClassId} {dI : Nat → Nat → Nat} {cI cS cJ : ClassId} {A : Nat → Prop} {b L : Nat} {xs : Nat → Int32} (C0 : lw_At p s m meth c b L xs) (hAd : A = fun q : Nat => s.heap.size ≤ q) (hK3 : va_K (dC, dI) vwCl [(cI, .int), (cS, .short), (cJ, .long)] s) {oX nT aT nL aL nM aM oC o4 a41 a42 a43 o5 a51 a52 a53 oP nB aB oH h1 h2 oK k1 k2 oG g1 g2 oR n1 a1 n2 a2 n3 a3 r1 r2 r3 r4 r5 r6 oQ oE nq aq np ap nv av q1 q2 q3 q4 oW nw aw o7 o8 o9 w1 w2 w3 w4 w5 w6 w7 oM mT mS mX mL mB mD m1 m2 mR x1 x2 x3 mH mY mE mW mO y1 y2 y3 y4 mZ oJ : Nat} {fa : Int32} {lT : Int32} {lL : Int32} {lM : Int32} {l4 : Int32} {l5 : Int32} {ft : Int32} {lB : Int32} {lH : Int32} {lK : Int32} {gn : Int32} {lG : Int32} {lR : Int32} {l1 : Int32} {l2 : Int32} {l3 : Int32} {pr : Int32} {reE : Int32} {laE : Int32} {suE : Int32} {leE : Int32} {lq : Int32} {lp : Int32} {lv : Int32} {ke : Int32} {tl : Int32} {fsh : Int32} {wi : Int32} {ri : Int32} {fm : Int32} {lm : Int32} {lw : Int32} {re7 : Int32} {la7 : Int32} {su7 : Int32} {le7 : Int32} {re8 : Int32} {la8 : Int32} {su8 : Int32} {le8 : Int32} {re9 : Int32} {la9 : Int32} {su9 : Int32} {le9 : Int32} {zt : Int32} {zp : Int32} {zf : Int32} {zh : Int32} {zr : Int32} {zc : Int32} {zy : Int32} {za : Int32} {zb : Int32} {zs : Int32} {zq : Int32} {zw : Int32} {ze : Int32} {zn : Int32} {zm : Int32} {zl : Int32} {zk : Int32} {zd : Int32} {fT : Nat → Int32} {fL : Nat → Int32} {fM : Nat → Int32} {f41 : Nat → Int32} {f42 : Nat → Int32} {f43 : Nat → Int32} {f51 : Nat → Int32} {f52 : Nat → Int32} {f53 : Nat → Int32} {fB : Nat → Int32} {fH1 : Nat → Int32} {fH2 : Nat → Int32} {fK1 : Nat → Int32} {fK2 : Nat → Int32} {fG1 : Nat → Int32} {fG2 : Nat → Int32} {f1 : Nat → Int32} {f2 : Nat → Int32} {f3 : Nat → Int32} {fR1 : Nat → Int32} {fR2 : Nat → Int32} {fR3 : Nat → Int32} {fR4 : Nat → Int32} {fR5 : Nat → Int32} {fR6 : Nat → Int32} {fq : Nat → Int32} {fp : Nat → Int32} {fv : Nat → Int32} {fQ1 : Nat → Int32} {fQ2 : Nat → Int32} {fQ3 : Nat → Int32} {fQ4 : Nat → Int32} {fw : Nat → Int32} {fW1 : Nat → Int32} {fW2 : Nat → Int32} {fW3 : Nat → Int32} {fW4 : Nat → Int32} {fW5 : Nat → Int32} {fW6 : Nat → Int32} {fW7 : Nat → Int32} {eT : Nat → Int32} {eS : Nat → Int32} {eX : Nat → Int32} {eL : Nat → Int32} {eB : Nat → Int32} {eD : Nat → Int32} {e1 : Nat → Int32} {e2 : Nat → Int32} {eR : Nat → Int32} {ec1 : Nat → Int32} {ec2 : Nat → Int32} {ec3 : Nat → Int32} {eH : Nat → Int32} {eY : Nat → Int32} {eE : Nat → Int32} {eW : Nat → Int32} {eO : Nat → Int32} {er1 : Nat → Int32} {er2 : Nat → Int32} {er3 : Nat → Int32} {er4 : Nat → Int32} {eZ : Nat → Int32} {fJ : Nat → Int64} {H : Heap} {locs : List Loc} {ls : Array Slot} {i : Int32} {nc : Nat} (hn : nc ≤ 511) (hi : 0 ≤ i.toInt ∧ i.toInt + 5 < (L : Int)) (hL : L ≤ 3072) (hI : INV nc lT lL lM l4 l5 lB lH lK gn lG lR l1 l2 l3 lq lp lv ke fsh wi ri fm lm lw zt zp zf zh zr zc zy za zb zs zq zn zm zk fT fL f41 f42 f43 f51 f52 f53 fH1 fH2 fK1 fK2 fG1 fG2 fW4 fW5 fW6 fW7 eT eS eX eL eB eD e1 e2 ec1 ec2 ec3 eH eY eE eW eO eZ) (hP : va_P (dC, dI) vwCl (WLD cI cS cJ oX nT aT nL aL nM aM oC o4 a41 a42 a43 o5 a51 a52 a53 oP nB aB oH h1 h2 oK k1 k2 oG g1 g2 oR n1 a1 n2 a2 n3 a3 r1 r2 r3 r4 r5 r6 oQ oE nq aq np ap nv av q1 q2 q3 q4 oW nw aw o7 o8 o9 w1 w2 w3 w4 w5 w6 w7 oM mT mS mX mL mB mD m1 m2 mR x1 x2 x3 mH mY mE mW mO y1 y2 y3 y4 mZ oJ fa lT lL lM l4 l5 ft lB lH lK gn lG lR l1 l2 l3 pr reE laE suE leE lq lp lv ke tl fsh wi ri fm lm lw re7 la7 su7 le7 re8 la8 su8 le8 re9 la9 su9 le9 zt zp zf zh zr zc zy za zb zs zq zw ze zn zm zl zk zd fT fL fM f41 f42 f43 f51 f52 f53 fB fH1 fH2 fK1 fK2 fG1 fG2 f1 f2 f3 fR1 fR2 fR3 fR4 fR5 fR6 fq fp fv fQ1 fQ2 fQ3 fQ4 fw fW1 fW2 fW3 fW4 fW5 fW6 fW7 eT eS eX eL eB eD e1 e2 eR ec1 ec2 ec3 eH eY eE eW eO er1 er2 er3 er4 eZ fJ) H) (hD : va_D A (WLD cI cS cJ oX nT aT nL aL nM aM oC o4 a41 a42 a43 o5 a51 a52 a53 oP nB aB oH h1 h2 oK k1 k2 oG g1 g2 oR n1 a1 n2 a2 n3 a3 r1 r2 r3 r4 r5 r6 oQ oE nq aq np ap nv av q1 q2 q3 q4 oW nw aw o7 o8 o9 w1 w2 w3 w4 w5 w6 w7 oM mT mS mX mL mB mD m1 m2 mR x1 x2 x3 mH mY mE mW mO y1 y2 y3 y4 mZ oJ fa lT lL lM l4 l5 ft lB lH lK gn lG lR l1 l2 l3 pr reE laE suE leE lq lp lv ke tl fsh wi ri fm lm lw re7 la7 su7 le7 re8 la8 su8 le8 re9 la9 su9 le9 zt zp zf zh zr zc zy za zb zs zq zw ze zn zm zl zk zd fT fL fM f41 f42 f43 f51 f52 f53 fB fH1 fH2 fK1 fK2 fG1 fG2 f1 f2 f3 fR1 fR2 fR3 fR4 fR5 fR6 fq fp fv fQ1 fQ2 fQ3 fQ4 fw fW1 fW2 fW3 fW4 fW5 fW6 fW7 eT eS eX eL eB eD e1 e2 eR ec1 ec2 ec3 eH eY eE eW eO er1 er2 er3 er4 eZ fJ)) (hS : va_S A s.heap H locs) (hl : lv_has ls 7 [(0, .ref b), (1, .ref oX), (2, .ref oM), (3, .ref oJ), (4, .int i)]) (kk : KK p l e s m below meth c dC dI cI cS cJ A b oX nT aT nL aL nM aM oC o4 a41 a42 a43 o5 a51 a52 a53 oP nB aB oH h1 h2 oK k1 k2 oG g1 g2 oR n1 a1 n2 a2 n3 a3 r1 r2 r3 r4 r5 r6 oQ oE nq aq np ap nv av q1 q2 q3 q4 oW nw aw o7 o8 o9 w1 w2 w3 w4 w5 w6 w7 oM mT mS mX mL mB mD m1 m2 mR x1 x2 x3 mH mY mE mW mO y1 y2 y3 y4 mZ oJ i nc) : W p l e room_1 s m #[Value.ref b] below meth c H locs (90 + nc) (172225 + 6 * nc) (lw_Z below #[Value.ref b] s) (F0 m 262 ls []) := by
  refine And.elim (fun hx hBC_0 => ?_) C0
  refine And.elim (fun hb hBC_1 => ?_) hBC_0
  refine And.elim (fun hr hBC_2 => ?_) hBC_1
  refine And.elim (fun hml hBC_3 => ?_) hBC_2
  refine And.elim (fun hown hBC_4 => ?_) hBC_3
  refine And.elim (fun hts0 hBC_5 => ?_) hBC_4
  refine And.elim (fun hX hBC_6 => ?_) hBC_5
  refine And.elim (fun hbl hBC_7 => ?_) hBC_6
  refine And.elim (fun hlocks hBC_8 => ?_) hBC_7
  have hgv := hBC_8
  clear hBC_0 hBC_1 hBC_2 hBC_3 hBC_4 hBC_5 hBC_6 hBC_7 hBC_8
  refine And.elim (fun g_lT hBI_0 => ?_) hI
  refine And.elim (fun g_lL hBI_1 => ?_) hBI_0
  refine And.elim (fun g_lM hBI_2 => ?_) hBI_1
  refine And.elim (fun g_lB hBI_3 => ?_) hBI_2
  refine And.elim (fun g_lH hBI_4 => ?_) hBI_3
  refine And.elim (fun g_lK hBI_5 => ?_) hBI_4
  refine And.elim (fun g_gn hBI_6 => ?_) hBI_5
  refine And.elim (fun g_lG hBI_7 => ?_) hBI_6
  refine And.elim (fun g_lR hBI_8 => ?_) hBI_7
  refine And.elim (fun g_l1 hBI_9 => ?_) hBI_8
  refine And.elim (fun g_l2 hBI_10 => ?_) hBI_9
  refine And.elim (fun g_l3 hBI_11 => ?_) hBI_10
  refine And.elim (fun g_lq hBI_12 => ?_) hBI_11
  refine And.elim (fun g_lp hBI_13 => ?_) hBI_12
  refine And.elim (fun g_lv hBI_14 => ?_) hBI_13
  refine And.elim (fun g_ke hBI_15 => ?_) hBI_14
  refine And.elim (fun g_fsh hBI_16 => ?_) hBI_15
  refine And.elim (fun g_fm hBI_17 => ?_) hBI_16
  refine And.elim (fun g_lm hBI_18 => ?_) hBI_17
  refine And.elim (fun g_lw hBI_19 => ?_) hBI_18
  refine And.elim (fun g_zt hBI_20 => ?_) hBI_19
  refine And.elim (fun g_zp hBI_21 => ?_) hBI_20
  refine And.elim (fun g_zf hBI_22 => ?_) hBI_21
  refine And.elim (fun g_zh hBI_23 => ?_) hBI_22
  refine And.elim (fun g_zr hBI_24 => ?_) hBI_23
  refine And.elim (fun g_zc hBI_25 => ?_) hBI_24
  refine And.elim (fun g_zy hBI_26 => ?_) hBI_25
  refine And.elim (fun g_za hBI_27 => ?_) hBI_26
  refine And.elim (fun g_zb hBI_28 => ?_) hBI_27
  refine And.elim (fun g_zs hBI_29 => ?_) hBI_28
  refine And.elim (fun g_zq hBI_30 => ?_) hBI_29
  refine And.elim (fun g_zn hBI_31 => ?_) hBI_30
  refine And.elim (fun g_zm hBI_32 => ?_) hBI_31
  refine And.elim (fun g_zk hBI_33 => ?_) hBI_32
  refine And.elim (fun g_fG2 hBI_34 => ?_) hBI_33
  refine And.elim (fun g_eS hBI_35 => ?_) hBI_34
  refine And.elim (fun g_eX hBI_36 => ?_) hBI_35
  refine And.elim (fun g_eL hBI_37 => ?_) hBI_36
  refine And.elim (fun g_eB hBI_38 => ?_) hBI_37
  refine And.elim (fun g_e1 hBI_39 => ?_) hBI_38
  refine And.elim (fun g_e2 hBI_40 => ?_) hBI_39
  refine And.elim (fun g_eY hBI_41 => ?_) hBI_40
  refine And.elim (fun g_eE hBI_42 => ?_) hBI_41
  refine And.elim (fun g_eW hBI_43 => ?_) hBI_42
  refine And.elim (fun g_eO hBI_44 => ?_) hBI_43
  refine And.elim (fun g_eZ hBI_45 => ?_) hBI_44
  refine And.elim (fun hzn hBI_46 => ?_) hBI_45
  refine And.elim (fun hrel hBI_47 => ?_) hBI_46
  refine And.elim (fun hrc hBI_48 => ?_) hBI_47
  refine And.elim (fun hr4 hBI_49 => ?_) hBI_48
  refine And.elim (fun hr5 hBI_50 => ?_) hBI_49
  refine And.elim (fun hb4 hBI_51 => ?_) hBI_50
  refine And.elim (fun hb5 hBI_52 => ?_) hBI_51
  refine And.elim (fun hlz hBI_53 => ?_) hBI_52
  refine And.elim (fun hH hBI_54 => ?_) hBI_53
  refine And.elim (fun hHe hBI_55 => ?_) hBI_54
  refine And.elim (fun hKz hBI_56 => ?_) hBI_55
  refine And.elim (fun hT hBI_57 => ?_) hBI_56
  refine And.elim (fun ho hBI_58 => ?_) hBI_57
  refine And.elim (fun hal hBI_59 => ?_) hBI_58
  refine And.elim (fun hCV hBI_60 => ?_) hBI_59
  refine And.elim (fun hVk hBI_61 => ?_) hBI_60
  refine And.elim (fun hVr hBI_62 => ?_) hBI_61
  refine And.elim (fun hTX hBI_63 => ?_) hBI_62
  refine And.elim (fun hCH hBI_64 => ?_) hBI_63
  refine And.elim (fun hvc hBI_65 => ?_) hBI_64
  refine And.elim (fun hfr hBI_66 => ?_) hBI_65
  refine And.elim (fun hfx hBI_67 => ?_) hBI_66
  have hfs := hBI_67
  clear hI hBI_0 hBI_1 hBI_2 hBI_3 hBI_4 hBI_5 hBI_6 hBI_7 hBI_8 hBI_9 hBI_10 hBI_11 hBI_12 hBI_13 hBI_14 hBI_15 hBI_16 hBI_17 hBI_18 hBI_19 hBI_20 hBI_21 hBI_22 hBI_23 hBI_24 hBI_25 hBI_26 hBI_27 hBI_28 hBI_29 hBI_30 hBI_31 hBI_32 hBI_33 hBI_34 hBI_35 hBI_36 hBI_37 hBI_38 hBI_39 hBI_40 hBI_41 hBI_42 hBI_43 hBI_44 hBI_45 hBI_46 hBI_47 hBI_48 hBI_49 hBI_50 hBI_51 hBI_52 hBI_53 hBI_54 hBI_55 hBI_56 hBI_57 hBI_58 hBI_59 hBI_60 hBI_61 hBI_62 hBI_63 hBI_64 hBI_65 hBI_66 hBI_67
  have hK : va_K (dC, dI) vwCl [(cI, .int), (cS, .short)] s := hK3.sub [0, 1] rfl
  have hown : s.vm.findClass RL = some m.cls := hown
  have hts := hts0
  have hcf := k_cf hx hb hml hown hts
  have hi9 : 0 ≤ i.toInt ∧ i.toInt ≤ 3066 := by omega
  have hzs : zs.toInt ≤ 1000000 := by omega
  have hA : ∀ q : Nat, s.heap.size ≤ q → A q := fun q h => by rw [hAd]; exact h
  have hbA : ¬ A b := by rw [hAd]; exact Nat.not_le.mpr hbl
  have hP : va_P (dC, dI) vwCl [(oX, .inr (11, [.ref nT, .ref nL, .ref nM, .ref oC, .ref oP, .ref oH, .ref oK, .ref oG, .ref oR, .ref oQ, .ref oW, .int fa])), (nT, .inr (5, [.ref aT, .int lT])), (aT, .inl (cI, 900, .inl fT)), (nL, .inr (5, [.ref aL, .int lL])), (aL, .inl (cI, 300, .inl fL)), (nM, .inr (5, [.ref aM, .int lM])), (aM, .inl (cI, 300, .inl fM)), (oC, .inr (2, [.ref o4, .ref o5])), (o4, .inr (10, [.ref a41, .ref a42, .ref a43, .int l4])), (a41, .inl (cI, 256, .inl f41)), (a42, .inl (cI, 512, .inl f42)), (a43, .inl (cI, 512, .inl f43)), (o5, .inr (10, [.ref a51, .ref a52, .ref a53, .int l5])), (a51, .inl (cI, 256, .inl f51)), (a52, .inl (cI, 512, .inl f52)), (a53, .inl (cI, 512, .inl f53)), (oP, .inr (7, [.ref oC, .ref nB, .int ft])), (nB, .inr (5, [.ref aB, .int lB])), (aB, .inl (cI, 2400, .inl fB)), (oH, .inr (4, [.ref oP, .ref h1, .ref h2, .int lH])), (h1, .inl (cI, 6, .inl fH1)), (h2, .inl (cI, 6, .inl fH2)), (oK, .inr (3, [.ref k1, .ref k2, .int lK])), (k1, .inl (cI, 1024, .inl fK1)), (k2, .inl (cI, 1024, .inl fK2)), (oG, .inr (0, [.ref g1, .ref g2, .int gn, .int lG])), (g1, .inl (cI, 6000, .inl fG1)), (g2, .inl (cI, 20, .inl fG2)), (oR, .inr (9, [.ref oH, .ref oK, .ref n1, .ref n2, .ref n3, .ref r1, .ref r2, .ref r3, .ref r4, .ref r5, .ref r6, .int lR])), (n1, .inr (5, [.ref a1, .int l1])), (a1, .inl (cI, 300, .inl f1)), (n2, .inr (5, [.ref a2, .int l2])), (a2, .inl (cI, 300, .inl f2)), (n3, .inr (5, [.ref a3, .int l3])), (a3, .inl (cI, 300, .inl f3)), (r1, .inl (cI, 258, .inl fR1)), (r2, .inl (cI, 258, .inl fR2)), (r3, .inl (cI, 774, .inl fR3)), (r4, .inl (cI, 258, .inl fR4)), (r5, .inl (cI, 258, .inl fR5)), (r6, .inl (cI, 774, .inl fR6)), (oQ, .inr (6, [.ref oC, .ref oH, .ref oK, .ref oE, .ref nq, .ref np, .ref nv, .ref q1, .ref q2, .ref q3, .ref q4, .int pr])), (oE, .inr (8, [.ref oC, .ref oK, .int reE, .int laE, .int suE, .int leE])), (nq, .inr (5, [.ref aq, .int lq])), (aq, .inl (cI, 480, .inl fq)), (np, .inr (5, [.ref ap, .int lp])), (ap, .inl (cI, 300, .inl fp)), (nv, .inr (5, [.ref av, .int lv])), (av, .inl (cI, 300, .inl fv)), (q1, .inl (cI, 61, .inl fQ1)), (q2, .inl (cI, 61, .inl fQ2)), (q3, .inl (cI, 61, .inl fQ3)), (q4, .inl (cI, 61, .inl fQ4)), (oW, .inr (1, [.ref oC, .ref oK, .ref nw, .ref w1, .ref w2, .ref w3, .ref o7, .ref o8, .ref o9, .ref w4, .ref w5, .ref w6, .ref w7, .int ke, .int tl, .int fsh, .int wi, .int ri, .int fm, .int lm])), (nw, .inr (5, [.ref aw, .int lw])), (aw, .inl (cI, 800, .inl fw)), (o7, .inr (8, [.ref oC, .ref oK, .int re7, .int la7, .int su7, .int le7])), (o8, .inr (8, [.ref oC, .ref oK, .int re8, .int la8, .int su8, .int le8])), (o9, .inr (8, [.ref oC, .ref oK, .int re9, .int la9, .int su9, .int le9])), (w1, .inl (cI, 801, .inl fW1)), (w2, .inl (cI, 801, .inl fW2)), (w3, .inl (cI, 801, .inl fW3)), (w4, .inl (cI, 200, .inl fW4)), (w5, .inl (cI, 200, .inl fW5)), (w6, .inl (cI, 200, .inl fW6)), (w7, .inl (cI, 200, .inl fW7)), (oM, .inr (12, [.ref mT, .int zt, .ref mS, .ref mX, .int zp, .int zf, .ref mL, .ref mB, .ref mD, .ref m1, .ref m2, .int zh, .ref mR, .int zr, .ref x1, .ref x2, .ref x3, .int zc, .ref mH, .int zy, .int za, .int zb, .int zs, .int zq, .int zw, .int ze, .ref mY, .int zn, .ref mE, .int zm, .int zl, .ref mW, .int zk, .ref mO, .int zd, .ref y1, .ref y2, .ref y3, .ref y4, .ref mZ])), (mT, .inl (cI, 900, .inl eT)), (mS, .inl (cI, 21, .inl eS)), (mX, .inl (cI, 6300, .inl eX)), (mL, .inl (cI, 512, .inl eL)), (mB, .inl (cS, 131072, .inl eB)), (mD, .inl (cI, 2, .inl eD)), (m1, .inl (cI, 6, .inl e1)), (m2, .inl (cI, 6, .inl e2)), (mR, .inl (cI, 1548, .inl eR)), (x1, .inl (cI, 300, .inl ec1)), (x2, .inl (cI, 300, .inl ec2)), (x3, .inl (cI, 300, .inl ec3)), (mH, .inl (cI, 800, .inl eH)), (mY, .inl (cI, 2600, .inl eY)), (mE, .inl (cI, 2600, .inl eE)), (mW, .inl (cI, 300, .inl eW)), (mO, .inl (cI, 300, .inl eO)), (y1, .inl (cI, 61, .inl er1)), (y2, .inl (cI, 61, .inl er2)), (y3, .inl (cI, 61, .inl er3)), (y4, .inl (cI, 61, .inl er4)), (mZ, .inl (cI, 600, .inl eZ)), (oJ, .inl (cJ, 1, .inr (.inl fJ)))] H := hP
  have hD : va_D A [(oX, .inr (11, [.ref nT, .ref nL, .ref nM, .ref oC, .ref oP, .ref oH, .ref oK, .ref oG, .ref oR, .ref oQ, .ref oW, .int fa])), (nT, .inr (5, [.ref aT, .int lT])), (aT, .inl (cI, 900, .inl fT)), (nL, .inr (5, [.ref aL, .int lL])), (aL, .inl (cI, 300, .inl fL)), (nM, .inr (5, [.ref aM, .int lM])), (aM, .inl (cI, 300, .inl fM)), (oC, .inr (2, [.ref o4, .ref o5])), (o4, .inr (10, [.ref a41, .ref a42, .ref a43, .int l4])), (a41, .inl (cI, 256, .inl f41)), (a42, .inl (cI, 512, .inl f42)), (a43, .inl (cI, 512, .inl f43)), (o5, .inr (10, [.ref a51, .ref a52, .ref a53, .int l5])), (a51, .inl (cI, 256, .inl f51)), (a52, .inl (cI, 512, .inl f52)), (a53, .inl (cI, 512, .inl f53)), (oP, .inr (7, [.ref oC, .ref nB, .int ft])), (nB, .inr (5, [.ref aB, .int lB])), (aB, .inl (cI, 2400, .inl fB)), (oH, .inr (4, [.ref oP, .ref h1, .ref h2, .int lH])), (h1, .inl (cI, 6, .inl fH1)), (h2, .inl (cI, 6, .inl fH2)), (oK, .inr (3, [.ref k1, .ref k2, .int lK])), (k1, .inl (cI, 1024, .inl fK1)), (k2, .inl (cI, 1024, .inl fK2)), (oG, .inr (0, [.ref g1, .ref g2, .int gn, .int lG])), (g1, .inl (cI, 6000, .inl fG1)), (g2, .inl (cI, 20, .inl fG2)), (oR, .inr (9, [.ref oH, .ref oK, .ref n1, .ref n2, .ref n3, .ref r1, .ref r2, .ref r3, .ref r4, .ref r5, .ref r6, .int lR])), (n1, .inr (5, [.ref a1, .int l1])), (a1, .inl (cI, 300, .inl f1)), (n2, .inr (5, [.ref a2, .int l2])), (a2, .inl (cI, 300, .inl f2)), (n3, .inr (5, [.ref a3, .int l3])), (a3, .inl (cI, 300, .inl f3)), (r1, .inl (cI, 258, .inl fR1)), (r2, .inl (cI, 258, .inl fR2)), (r3, .inl (cI, 774, .inl fR3)), (r4, .inl (cI, 258, .inl fR4)), (r5, .inl (cI, 258, .inl fR5)), (r6, .inl (cI, 774, .inl fR6)), (oQ, .inr (6, [.ref oC, .ref oH, .ref oK, .ref oE, .ref nq, .ref np, .ref nv, .ref q1, .ref q2, .ref q3, .ref q4, .int pr])), (oE, .inr (8, [.ref oC, .ref oK, .int reE, .int laE, .int suE, .int leE])), (nq, .inr (5, [.ref aq, .int lq])), (aq, .inl (cI, 480, .inl fq)), (np, .inr (5, [.ref ap, .int lp])), (ap, .inl (cI, 300, .inl fp)), (nv, .inr (5, [.ref av, .int lv])), (av, .inl (cI, 300, .inl fv)), (q1, .inl (cI, 61, .inl fQ1)), (q2, .inl (cI, 61, .inl fQ2)), (q3, .inl (cI, 61, .inl fQ3)), (q4, .inl (cI, 61, .inl fQ4)), (oW, .inr (1, [.ref oC, .ref oK, .ref nw, .ref w1, .ref w2, .ref w3, .ref o7, .ref o8, .ref o9, .ref w4, .ref w5, .ref w6, .ref w7, .int ke, .int tl, .int fsh, .int wi, .int ri, .int fm, .int lm])), (nw, .inr (5, [.ref aw, .int lw])), (aw, .inl (cI, 800, .inl fw)), (o7, .inr (8, [.ref oC, .ref oK, .int re7, .int la7, .int su7, .int le7])), (o8, .inr (8, [.ref oC, .ref oK, .int re8, .int la8, .int su8, .int le8])), (o9, .inr (8, [.ref oC, .ref oK, .int re9, .int la9, .int su9, .int le9])), (w1, .inl (cI, 801, .inl fW1)), (w2, .inl (cI, 801, .inl fW2)), (w3, .inl (cI, 801, .inl fW3)), (w4, .inl (cI, 200, .inl fW4)), (w5, .inl (cI, 200, .inl fW5)), (w6, .inl (cI, 200, .inl fW6)), (w7, .inl (cI, 200, .inl fW7)), (oM, .inr (12, [.ref mT, .int zt, .ref mS, .ref mX, .int zp, .int zf, .ref mL, .ref mB, .ref mD, .ref m1, .ref m2, .int zh, .ref mR, .int zr, .ref x1, .ref x2, .ref x3, .int zc, .ref mH, .int zy, .int za, .int zb, .int zs, .int zq, .int zw, .int ze, .ref mY, .int zn, .ref mE, .int zm, .int zl, .ref mW, .int zk, .ref mO, .int zd, .ref y1, .ref y2, .ref y3, .ref y4, .ref mZ])), (mT, .inl (cI, 900, .inl eT)), (mS, .inl (cI, 21, .inl eS)), (mX, .inl (cI, 6300, .inl eX)), (mL, .inl (cI, 512, .inl eL)), (mB, .inl (cS, 131072, .inl eB)), (mD, .inl (cI, 2, .inl eD)), (m1, .inl (cI, 6, .inl e1)), (m2, .inl (cI, 6, .inl e2)), (mR, .inl (cI, 1548, .inl eR)), (x1, .inl (cI, 300, .inl ec1)), (x2, .inl (cI, 300, .inl ec2)), (x3, .inl (cI, 300, .inl ec3)), (mH, .inl (cI, 800, .inl eH)), (mY, .inl (cI, 2600, .inl eY)), (mE, .inl (cI, 2600, .inl eE)), (mW, .inl (cI, 300, .inl eW)), (mO, .inl (cI, 300, .inl eO)), (y1, .inl (cI, 61, .inl er1)), (y2, .inl (cI, 61, .inl er2)), (y3, .inl (cI, 61, .inl er3)), (y4, .inl (cI, 61, .inl er4)), (mZ, .inl (cI, 600, .inl eZ)), (oJ, .inl (cJ, 1, .inr (.inl fJ)))] := hD
  replace g_lM := hid g_lM
  replace g_lB := hid g_lB
  replace g_lR := hid g_lR
  replace g_l1 := hid g_l1
  replace g_l2 := hid g_l2
  replace g_l3 := hid g_l3
  replace g_lq := hid g_lq
  replace g_lp := hid g_lp
  replace g_lv := hid g_lv
  replace g_fm := hid g_fm
  replace g_lm := hid g_lm
  replace g_lw := hid g_lw
  replace g_zr := hid g_zr
  replace g_zn := hid g_zn
  replace g_zm := hid g_zm
  replace g_zk := hid g_zk
  refine lv_aload_n hx hb dL_law_262 rfl (lv_at hl 1 rfl) ?_
  refine kV_i (rest := []) (q0 := 0) (ci := 11) hcf (f_X11_textE l dC dI cI cS H.size oX nT nL nM oC oP oH oK oG oR oQ oW aT aL aM g1 g2 nw w1 w2 w3 o7 o8 o9 w4 w5 w6 w7 fa lT fT lL fL lM fM gn lG fG1 fG2 ke tl fsh wi ri fm lm (g_lT) (g_lL) (g_lM) (g_gn) (g_lG) (g_fG2) (g_ke) (g_fsh) (g_fm) (g_lm)) kc_X11_text gL_law_X11_text rfl rfl rfl ⟨Nat.le_of_ble_eq_true rfl, Nat.le_of_ble_eq_true rfl⟩ kX_t hK hP hD hS hA (posT mk_4 0) (posF mk_4 0) (kC_of mk_4 rfl rfl) (by decide +kernel) rfl rfl rfl hl rfl (Nat.le_of_ble_eq_true rfl) dL_law_263 ⟨kfit1 hn (Nat.le_of_ble_eq_true rfl), ksix1 hn (Nat.le_of_ble_eq_true rfl)⟩ (fun r_1 H locs hB hJ hSn => ?_)
  refine Exists.elim hB (fun fa_1 hB1_0 => ?_)
  refine Exists.elim hB1_0 (fun lT_1 hB1_1 => ?_)
  refine Exists.elim hB1_1 (fun lM_1 hB1_2 => ?_)
  refine Exists.elim hB1_2 (fun fM_1 hB1_3 => ?_)
  refine Exists.elim hB1_3 (fun lL_1 hB1_4 => ?_)
  refine Exists.elim hB1_4 (fun fL_1 hB1_5 => ?_)
  refine Exists.elim hB1_5 (fun fsh_1 hB1_6 => ?_)
  refine Exists.elim hB1_6 (fun gn_1 hB1_7 => ?_)
  refine Exists.elim hB1_7 (fun lG_1 hB1_8 => ?_)
  refine Exists.elim hB1_8 (fun fG1_1 hB1_9 => ?_)
  refine Exists.elim hB1_9 (fun fG2_1 hB1_10 => ?_)
  refine And.elim (fun hPD9 hB1_11 => ?_) hB1_10
  refine And.elim (fun hf1_0 hB1_12 => ?_) hB1_11
  refine And.elim (fun hf1_1 hB1_13 => ?_) hB1_12
  refine And.elim (fun hf1_2 hB1_14 => ?_) hB1_13
  refine And.elim (fun hf1_3 hB1_15 => ?_) hB1_14
  refine And.elim (fun hf1_4 hB1_16 => ?_) hB1_15
  refine And.elim (fun hf1_5 hB1_17 => ?_) hB1_16
  refine And.elim (fun hf1_6 hB1_18 => ?_) hB1_17
  refine And.elim (fun hf1_7 hB1_19 => ?_) hB1_18
  have hf1_8 := hB1_19
  clear hB hB1_0 hB1_1 hB1_2 hB1_3 hB1_4 hB1_5 hB1_6 hB1_7 hB1_8 hB1_9 hB1_10 hB1_11 hB1_12 hB1_13 hB1_14 hB1_15 hB1_16 hB1_17 hB1_18 hB1_19
  obtain ⟨hPn, hDn⟩ := kJi (m := mk_4) hJ rfl hPD9.1 hPD9.2 (wn := [(oX, .inr (11, [.ref nT, .ref nL, .ref nM, .ref oC, .ref oP, .ref oH, .ref oK, .ref oG, .ref oR, .ref oQ, .ref oW, .int fa_1])), (nT, .inr (5, [.ref aT, .int lT_1])), (aT, .inl (cI, 900, .inl fT)), (nL, .inr (5, [.ref aL, .int lL_1])), (aL, .inl (cI, 300, .inl fL_1)), (nM, .inr (5, [.ref aM, .int lM_1])), (aM, .inl (cI, 300, .inl fM_1)), (oC, .inr (2, [.ref o4, .ref o5])), (o4, .inr (10, [.ref a41, .ref a42, .ref a43, .int l4])), (a41, .inl (cI, 256, .inl f41)), (a42, .inl (cI, 512, .inl f42)), (a43, .inl (cI, 512, .inl f43)), (o5, .inr (10, [.ref a51, .ref a52, .ref a53, .int l5])), (a51, .inl (cI, 256, .inl f51)), (a52, .inl (cI, 512, .inl f52)), (a53, .inl (cI, 512, .inl f53)), (oP, .inr (7, [.ref oC, .ref nB, .int ft])), (nB, .inr (5, [.ref aB, .int lB])), (aB, .inl (cI, 2400, .inl fB)), (oH, .inr (4, [.ref oP, .ref h1, .ref h2, .int lH])), (h1, .inl (cI, 6, .inl fH1)), (h2, .inl (cI, 6, .inl fH2)), (oK, .inr (3, [.ref k1, .ref k2, .int lK])), (k1, .inl (cI, 1024, .inl fK1)), (k2, .inl (cI, 1024, .inl fK2)), (oG, .inr (0, [.ref g1, .ref g2, .int gn_1, .int lG_1])), (g1, .inl (cI, 6000, .inl fG1_1)), (g2, .inl (cI, 20, .inl fG2_1)), (oR, .inr (9, [.ref oH, .ref oK, .ref n1, .ref n2, .ref n3, .ref r1, .ref r2, .ref r3, .ref r4, .ref r5, .ref r6, .int lR])), (n1, .inr (5, [.ref a1, .int l1])), (a1, .inl (cI, 300, .inl f1)), (n2, .inr (5, [.ref a2, .int l2])), (a2, .inl (cI, 300, .inl f2)), (n3, .inr (5, [.ref a3, .int l3])), (a3, .inl (cI, 300, .inl f3)), (r1, .inl (cI, 258, .inl fR1)), (r2, .inl (cI, 258, .inl fR2)), (r3, .inl (cI, 774, .inl fR3)), (r4, .inl (cI, 258, .inl fR4)), (r5, .inl (cI, 258, .inl fR5)), (r6, .inl (cI, 774, .inl fR6)), (oQ, .inr (6, [.ref oC, .ref oH, .ref oK, .ref oE, .ref nq, .ref np, .ref nv, .ref q1, .ref q2, .ref q3, .ref q4, .int pr])), (oE, .inr (8, [.ref oC, .ref oK, .int reE, .int laE, .int suE, .int leE])), (nq, .inr (5, [.ref aq, .int lq])), (aq, .inl (cI, 480, .inl fq)), (np, .inr (5, [.ref ap, .int lp])), (ap, .inl (cI, 300, .inl fp)), (nv, .inr (5, [.ref av, .int lv])), (av, .inl (cI, 300, .inl fv)), (q1, .inl (cI, 61, .inl fQ1)), (q2, .inl (cI, 61, .inl fQ2)), (q3, .inl (cI, 61, .inl fQ3)), (q4, .inl (cI, 61, .inl fQ4)), (oW, .inr (1, [.ref oC, .ref oK, .ref nw, .ref w1, .ref w2, .ref w3, .ref o7, .ref o8, .ref o9, .ref w4, .ref w5, .ref w6, .ref w7, .int ke, .int tl, .int fsh_1, .int wi, .int ri, .int fm, .int lm])), (nw, .inr (5, [.ref aw, .int lw])), (aw, .inl (cI, 800, .inl fw)), (o7, .inr (8, [.ref oC, .ref oK, .int re7, .int la7, .int su7, .int le7])), (o8, .inr (8, [.ref oC, .ref oK, .int re8, .int la8, .int su8, .int le8])), (o9, .inr (8, [.ref oC, .ref oK, .int re9, .int la9, .int su9, .int le9])), (w1, .inl (cI, 801, .inl fW1)), (w2, .inl (cI, 801, .inl fW2)), (w3, .inl (cI, 801, .inl fW3)), (w4, .inl (cI, 200, .inl fW4)), (w5, .inl (cI, 200, .inl fW5)), (w6, .inl (cI, 200, .inl fW6)), (w7, .inl (cI, 200, .inl fW7)), (oM, .inr (12, [.ref mT, .int zt, .ref mS, .ref mX, .int zp, .int zf, .ref mL, .ref mB, .ref mD, .ref m1, .ref m2, .int zh, .ref mR, .int zr, .ref x1, .ref x2, .ref x3, .int zc, .ref mH, .int zy, .int za, .int zb, .int zs, .int zq, .int zw, .int ze, .ref mY, .int zn, .ref mE, .int zm, .int zl, .ref mW, .int zk, .ref mO, .int zd, .ref y1, .ref y2, .ref y3, .ref y4, .ref mZ])), (mT, .inl (cI, 900, .inl eT)), (mS, .inl (cI, 21, .inl eS)), (mX, .inl (cI, 6300, .inl eX)), (mL, .inl (cI, 512, .inl eL)), (mB, .inl (cS, 131072, .inl eB)), (mD, .inl (cI, 2, .inl eD)), (m1, .inl (cI, 6, .inl e1)), (m2, .inl (cI, 6, .inl e2)), (mR, .inl (cI, 1548, .inl eR)), (x1, .inl (cI, 300, .inl ec1)), (x2, .inl (cI, 300, .inl ec2)), (x3, .inl (cI, 300, .inl ec3)), (mH, .inl (cI, 800, .inl eH)), (mY, .inl (cI, 2600, .inl eY)), (mE, .inl (cI, 2600, .inl eE)), (mW, .inl (cI, 300, .inl eW)), (mO, .inl (cI, 300, .inl eO)), (y1, .inl (cI, 61, .inl er1)), (y2, .inl (cI, 61, .inl er2)), (y3, .inl (cI, 61, .inl er3)), (y4, .inl (cI, 61, .inl er4)), (mZ, .inl (cI, 600, .inl eZ)), (oJ, .inl (cJ, 1, .inr (.inl fJ)))]) rfl
  clear hP hD hS hJ hPD9
  have hP := hPn
  have hD := hDn
  have hS := hSn
  clear hPn hDn hSn
  refine lv_pop hx hb dL_law_266 rfl ?_
  refine lv_aload_n hx hb dL_law_267 rfl (lv_at hl 2 rfl) ?_
  refine kV_i (rest := []) (q0 := 0) (ci := 12) hcf (f_X12_textE l dC dI cI cS H.size oM mT mS mX mL mB mD m1 m2 mR x1 x2 x3 mH mY mE mW mO y1 y2 y3 y4 mZ zt zp zf zh zr zc zy za zb zs zq zw ze zn zm zl zk zd eT eS eX (g_zt) (g_zp) (g_zf) (g_zh) (g_zr) (g_zc) (g_zy) (g_za) (g_zb) (g_zs) (g_zq) (g_zn) (g_zm) (g_zk) (g_eS) (g_eX) (by omega)) kc_X12_text gL_law_X12_text rfl rfl rfl ⟨Nat.le_of_ble_eq_true rfl, Nat.le_of_ble_eq_true rfl⟩ kX_t hK hP hD hS hA (posT mk_5 0) (posF mk_5 0) (kC_of mk_5 rfl rfl) (by decide +kernel) rfl rfl rfl hl rfl (Nat.le_of_ble_eq_true rfl) dL_law_268 ⟨kfit2 hn (Nat.le_of_ble_eq_true rfl), ksix2 hn (Nat.le_of_ble_eq_true rfl)⟩ (fun r_2 H locs hB hJ hSn => ?_)
  refine Exists.elim hB (fun ze_2 hB2_0 => ?_)
  refine Exists.elim hB2_0 (fun zw_2 hB2_1 => ?_)
  refine Exists.elim hB2_1 (fun zt_2 hB2_2 => ?_)
  refine Exists.elim hB2_2 (fun zp_2 hB2_3 => ?_)
  refine Exists.elim hB2_3 (fun zf_2 hB2_4 => ?_)
  refine Exists.elim hB2_4 (fun zs_2 hB2_5 => ?_)
  refine Exists.elim hB2_5 (fun eS_2 hB2_6 => ?_)
  refine Exists.elim hB2_6 (fun eX_2 hB2_7 => ?_)
  refine And.elim (fun hPD9 hB2_8 => ?_) hB2_7
  refine And.elim (fun hf2_0 hB2_9 => ?_) hB2_8
  refine And.elim (fun hf2_1 hB2_10 => ?_) hB2_9
  refine And.elim (fun hf2_2 hB2_11 => ?_) hB2_10
  refine And.elim (fun hf2_3 hB2_12 => ?_) hB2_11
  refine And.elim (fun hf2_4 hB2_13 => ?_) hB2_12
  refine And.elim (fun hf2_5 hB2_14 => ?_) hB2_13
  refine And.elim (fun hf2_6 hB2_15 => ?_) hB2_14
  refine And.elim (fun hf2_7 hB2_16 => ?_) hB2_15
  refine And.elim (fun hf2_8 hB2_17 => ?_) hB2_16
  have hf2_9 := hB2_17
  clear hB hB2_0 hB2_1 hB2_2 hB2_3 hB2_4 hB2_5 hB2_6 hB2_7 hB2_8 hB2_9 hB2_10 hB2_11 hB2_12 hB2_13 hB2_14 hB2_15 hB2_16 hB2_17
  obtain ⟨hPn, hDn⟩ := kJi (m := mk_5) hJ rfl hPD9.1 hPD9.2 (wn := [(oX, .inr (11, [.ref nT, .ref nL, .ref nM, .ref oC, .ref oP, .ref oH, .ref oK, .ref oG, .ref oR, .ref oQ, .ref oW, .int fa_1])), (nT, .inr (5, [.ref aT, .int lT_1])), (aT, .inl (cI, 900, .inl fT)), (nL, .inr (5, [.ref aL, .int lL_1])), (aL, .inl (cI, 300, .inl fL_1)), (nM, .inr (5, [.ref aM, .int lM_1])), (aM, .inl (cI, 300, .inl fM_1)), (oC, .inr (2, [.ref o4, .ref o5])), (o4, .inr (10, [.ref a41, .ref a42, .ref a43, .int l4])), (a41, .inl (cI, 256, .inl f41)), (a42, .inl (cI, 512, .inl f42)), (a43, .inl (cI, 512, .inl f43)), (o5, .inr (10, [.ref a51, .ref a52, .ref a53, .int l5])), (a51, .inl (cI, 256, .inl f51)), (a52, .inl (cI, 512, .inl f52)), (a53, .inl (cI, 512, .inl f53)), (oP, .inr (7, [.ref oC, .ref nB, .int ft])), (nB, .inr (5, [.ref aB, .int lB])), (aB, .inl (cI, 2400, .inl fB)), (oH, .inr (4, [.ref oP, .ref h1, .ref h2, .int lH])), (h1, .inl (cI, 6, .inl fH1)), (h2, .inl (cI, 6, .inl fH2)), (oK, .inr (3, [.ref k1, .ref k2, .int lK])), (k1, .inl (cI, 1024, .inl fK1)), (k2, .inl (cI, 1024, .inl fK2)), (oG, .inr (0, [.ref g1, .ref g2, .int gn_1, .int lG_1])), (g1, .inl (cI, 6000, .inl fG1_1)), (g2, .inl (cI, 20, .inl fG2_1)), (oR, .inr (9, [.ref oH, .ref oK, .ref n1, .ref n2, .ref n3, .ref r1, .ref r2, .ref r3, .ref r4, .ref r5, .ref r6, .int lR])), (n1, .inr (5, [.ref a1, .int l1])), (a1, .inl (cI, 300, .inl f1)), (n2, .inr (5, [.ref a2, .int l2])), (a2, .inl (cI, 300, .inl f2)), (n3, .inr (5, [.ref a3, .int l3])), (a3, .inl (cI, 300, .inl f3)), (r1, .inl (cI, 258, .inl fR1)), (r2, .inl (cI, 258, .inl fR2)), (r3, .inl (cI, 774, .inl fR3)), (r4, .inl (cI, 258, .inl fR4)), (r5, .inl (cI, 258, .inl fR5)), (r6, .inl (cI, 774, .inl fR6)), (oQ, .inr (6, [.ref oC, .ref oH, .ref oK, .ref oE, .ref nq, .ref np, .ref nv, .ref q1, .ref q2, .ref q3, .ref q4, .int pr])), (oE, .inr (8, [.ref oC, .ref oK, .int reE, .int laE, .int suE, .int leE])), (nq, .inr (5, [.ref aq, .int lq])), (aq, .inl (cI, 480, .inl fq)), (np, .inr (5, [.ref ap, .int lp])), (ap, .inl (cI, 300, .inl fp)), (nv, .inr (5, [.ref av, .int lv])), (av, .inl (cI, 300, .inl fv)), (q1, .inl (cI, 61, .inl fQ1)), (q2, .inl (cI, 61, .inl fQ2)), (q3, .inl (cI, 61, .inl fQ3)), (q4, .inl (cI, 61, .inl fQ4)), (oW, .inr (1, [.ref oC, .ref oK, .ref nw, .ref w1, .ref w2, .ref w3, .ref o7, .ref o8, .ref o9, .ref w4, .ref w5, .ref w6, .ref w7, .int ke, .int tl, .int fsh_1, .int wi, .int ri, .int fm, .int lm])), (nw, .inr (5, [.ref aw, .int lw])), (aw, .inl (cI, 800, .inl fw)), (o7, .inr (8, [.ref oC, .ref oK, .int re7, .int la7, .int su7, .int le7])), (o8, .inr (8, [.ref oC, .ref oK, .int re8, .int la8, .int su8, .int le8])), (o9, .inr (8, [.ref oC, .ref oK, .int re9, .int la9, .int su9, .int le9])), (w1, .inl (cI, 801, .inl fW1)), (w2, .inl (cI, 801, .inl fW2)), (w3, .inl (cI, 801, .inl fW3)), (w4, .inl (cI, 200, .inl fW4)), (w5, .inl (cI, 200, .inl fW5)), (w6, .inl (cI, 200, .inl fW6)), (w7, .inl (cI, 200, .inl fW7)), (oM, .inr (12, [.ref mT, .int zt_2, .ref mS, .ref mX, .int zp_2, .int zf_2, .ref mL, .ref mB, .ref mD, .ref m1, .ref m2, .int zh, .ref mR, .int zr, .ref x1, .ref x2, .ref x3, .int zc, .ref mH, .int zy, .int za, .int zb, .int zs_2, .int zq, .int zw_2, .int ze_2, .ref mY, .int zn, .ref mE, .int zm, .int zl, .ref mW, .int zk, .ref mO, .int zd, .ref y1, .ref y2, .ref y3, .ref y4, .ref mZ])), (mT, .inl (cI, 900, .inl eT)), (mS, .inl (cI, 21, .inl eS_2)), (mX, .inl (cI, 6300, .inl eX_2)), (mL, .inl (cI, 512, .inl eL)), (mB, .inl (cS, 131072, .inl eB)), (mD, .inl (cI, 2, .inl eD)), (m1, .inl (cI, 6, .inl e1)), (m2, .inl (cI, 6, .inl e2)), (mR, .inl (cI, 1548, .inl eR)), (x1, .inl (cI, 300, .inl ec1)), (x2, .inl (cI, 300, .inl ec2)), (x3, .inl (cI, 300, .inl ec3)), (mH, .inl (cI, 800, .inl eH)), (mY, .inl (cI, 2600, .inl eY)), (mE, .inl (cI, 2600, .inl eE)), (mW, .inl (cI, 300, .inl eW)), (mO, .inl (cI, 300, .inl eO)), (y1, .inl (cI, 61, .inl er1)), (y2, .inl (cI, 61, .inl er2)), (y3, .inl (cI, 61, .inl er3)), (y4, .inl (cI, 61, .inl er4)), (mZ, .inl (cI, 600, .inl eZ)), (oJ, .inl (cJ, 1, .inr (.inl fJ)))]) rfl
  clear hP hD hS hJ hPD9
  have hP := hPn
  have hD := hDn
  have hS := hSn
  clear hPn hDn hSn
  refine lv_pop hx hb dL_law_271 rfl ?_
  refine lv_goto (tgt := 1022) hx hb dL_law_272 (by decide) ?_
  have hcg := chg_rel hTX hCH hf1_8 hf2_9 (tx_iff hrel hrc) tx_ok g_lL.1 g_lL.2 g_gn g_zp g_zf g_fG2
  have hdf : DFr fsh fsh_1 zs zs_2 := hcg.2.2.2
  refine W.widen (k := 90 + (nc + 1)) (n := 172225 + 6 * (nc + 1)) (by omega) (by omega) ?_
  exact kk fa_1 lT_1 lL_1 lM_1 l4 l5 ft lB lH lK gn_1 lG_1 lR l1 l2 l3 pr reE laE suE leE lq lp lv ke tl fsh_1 wi ri fm lm lw re7 la7 su7 le7 re8 la8 su8 le8 re9 la9 su9 le9 zt_2 zp_2 zf_2 zh zr zc zy za zb zs_2 zq zw_2 ze_2 zn zm zl zk zd fT fL_1 fM_1 f41 f42 f43 f51 f52 f53 fB fH1 fH2 fK1 fK2 fG1_1 fG2_1 f1 f2 f3 fR1 fR2 fR3 fR4 fR5 fR6 fq fp fv fQ1 fQ2 fQ3 fQ4 fw fW1 fW2 fW3 fW4 fW5 fW6 fW7 eT eS_2 eX_2 eL eB eD e1 e2 eR ec1 ec2 ec3 eH eY eE eW eO er1 er2 er3 er4 eZ fJ _ _ _ ⟨hf1_0, hf1_2, hf1_1, g_lB, g_lH, g_lK, hf1_4, hf1_5, g_lR, g_l1, g_l2, g_l3, g_lq, g_lp, g_lv, g_ke, hf1_3, g_fm, g_lm, g_lw, hf2_0, hf2_1, hf2_2, g_zh, g_zr, g_zc, g_zy, g_za, g_zb, hf2_3, g_zq, g_zn, g_zm, g_zk, hf1_6, hf2_4, hf2_5, g_eL, g_eB, g_e1, g_e2, g_eY, g_eE, g_eW, g_eO, g_eZ, by omega, by show lT_1.toInt = zt_2.toInt; omega, eqT_le hrc (by omega), hr4, hr5, hb4, hb5, hlz, hH, hHe, hKz, hT, ho, hal, hCV, hVk, hVr, hcg.2.1, hcg.2.2.1, hvc, fr_d hfr hdf, fx_d hfx hdf, frs_st hfs hfr hf2_8⟩ hP hD hS (lv_sub hl [0, 1, 2, 3, 4] rfl)

set_option maxHeartbeats 40000000 in
set_option maxRecDepth 100000 in
theorem law_read {p : Program} {l : Launch} {e : Env} {s : State} {m : MethodId} {below : List Frame} {meth : Method} {c : Code} {dC : Nat → ClassId} {dI : Nat → Nat → Nat} {cI cS cJ : ClassId} {A : Nat → Prop} {b L : Nat} {xs : Nat → Int32} (C0 : lw_At p s m meth c b L xs) (hAd : A = fun q : Nat => s.heap.size ≤ q) (hK3 : va_K (dC, dI) vwCl [(cI, .int), (cS, .short), (cJ, .long)] s) {oX nT aT nL aL nM aM oC o4 a41 a42 a43 o5 a51 a52 a53 oP nB aB oH h1 h2 oK k1 k2 oG g1 g2 oR n1 a1 n2 a2 n3 a3 r1 r2 r3 r4 r5 r6 oQ oE nq aq np ap nv av q1 q2 q3 q4 oW nw aw o7 o8 o9 w1 w2 w3 w4 w5 w6 w7 oM mT mS mX mL mB mD m1 m2 mR x1 x2 x3 mH mY mE mW mO y1 y2 y3 y4 mZ oJ : Nat} {fa : Int32} {lT : Int32} {lL : Int32} {lM : Int32} {l4 : Int32} {l5 : Int32} {ft : Int32} {lB : Int32} {lH : Int32} {lK : Int32} {gn : Int32} {lG : Int32} {lR : Int32} {l1 : Int32} {l2 : Int32} {l3 : Int32} {pr : Int32} {reE : Int32} {laE : Int32} {suE : Int32} {leE : Int32} {lq : Int32} {lp : Int32} {lv : Int32} {ke : Int32} {tl : Int32} {fsh : Int32} {wi : Int32} {ri : Int32} {fm : Int32} {lm : Int32} {lw : Int32} {re7 : Int32} {la7 : Int32} {su7 : Int32} {le7 : Int32} {re8 : Int32} {la8 : Int32} {su8 : Int32} {le8 : Int32} {re9 : Int32} {la9 : Int32} {su9 : Int32} {le9 : Int32} {zt : Int32} {zp : Int32} {zf : Int32} {zh : Int32} {zr : Int32} {zc : Int32} {zy : Int32} {za : Int32} {zb : Int32} {zs : Int32} {zq : Int32} {zw : Int32} {ze : Int32} {zn : Int32} {zm : Int32} {zl : Int32} {zk : Int32} {zd : Int32} {fT : Nat → Int32} {fL : Nat → Int32} {fM : Nat → Int32} {f41 : Nat → Int32} {f42 : Nat → Int32} {f43 : Nat → Int32} {f51 : Nat → Int32} {f52 : Nat → Int32} {f53 : Nat → Int32} {fB : Nat → Int32} {fH1 : Nat → Int32} {fH2 : Nat → Int32} {fK1 : Nat → Int32} {fK2 : Nat → Int32} {fG1 : Nat → Int32} {fG2 : Nat → Int32} {f1 : Nat → Int32} {f2 : Nat → Int32} {f3 : Nat → Int32} {fR1 : Nat → Int32} {fR2 : Nat → Int32} {fR3 : Nat → Int32} {fR4 : Nat → Int32} {fR5 : Nat → Int32} {fR6 : Nat → Int32} {fq : Nat → Int32} {fp : Nat → Int32} {fv : Nat → Int32} {fQ1 : Nat → Int32} {fQ2 : Nat → Int32} {fQ3 : Nat → Int32} {fQ4 : Nat → Int32} {fw : Nat → Int32} {fW1 : Nat → Int32} {fW2 : Nat → Int32} {fW3 : Nat → Int32} {fW4 : Nat → Int32} {fW5 : Nat → Int32} {fW6 : Nat → Int32} {fW7 : Nat → Int32} {eT : Nat → Int32} {eS : Nat → Int32} {eX : Nat → Int32} {eL : Nat → Int32} {eB : Nat → Int32} {eD : Nat → Int32} {e1 : Nat → Int32} {e2 : Nat → Int32} {eR : Nat → Int32} {ec1 : Nat → Int32} {ec2 : Nat → Int32} {ec3 : Nat → Int32} {eH : Nat → Int32} {eY : Nat → Int32} {eE : Nat → Int32} {eW : Nat → Int32} {eO : Nat → Int32} {er1 : Nat → Int32} {er2 : Nat → Int32} {er3 : Nat → Int32} {er4 : Nat → Int32} {eZ : Nat → Int32} {fJ : Nat → Int64} {H : Heap} {locs : List Loc} {ls : Array Slot} {i : Int32} {nc : Nat} (hn : nc ≤ 511) (hi : 0 ≤ i.toInt ∧ i.toInt + 5 < (L : Int)) (hL : L ≤ 3072) (hI : INV nc lT lL lM l4 l5 lB lH lK gn lG lR l1 l2 l3 lq lp lv ke fsh wi ri fm lm lw zt zp zf zh zr zc zy za zb zs zq zn zm zk fT fL f41 f42 f43 f51 f52 f53 fH1 fH2 fK1 fK2 fG1 fG2 fW4 fW5 fW6 fW7 eT eS eX eL eB eD e1 e2 ec1 ec2 ec3 eH eY eE eW eO eZ) (hP : va_P (dC, dI) vwCl (WLD cI cS cJ oX nT aT nL aL nM aM oC o4 a41 a42 a43 o5 a51 a52 a53 oP nB aB oH h1 h2 oK k1 k2 oG g1 g2 oR n1 a1 n2 a2 n3 a3 r1 r2 r3 r4 r5 r6 oQ oE nq aq np ap nv av q1 q2 q3 q4 oW nw aw o7 o8 o9 w1 w2 w3 w4 w5 w6 w7 oM mT mS mX mL mB mD m1 m2 mR x1 x2 x3 mH mY mE mW mO y1 y2 y3 y4 mZ oJ fa lT lL lM l4 l5 ft lB lH lK gn lG lR l1 l2 l3 pr reE laE suE leE lq lp lv ke tl fsh wi ri fm lm lw re7 la7 su7 le7 re8 la8 su8 le8 re9 la9 su9 le9 zt zp zf zh zr zc zy za zb zs zq zw ze zn zm zl zk zd fT fL fM f41 f42 f43 f51 f52 f53 fB fH1 fH2 fK1 fK2 fG1 fG2 f1 f2 f3 fR1 fR2 fR3 fR4 fR5 fR6 fq fp fv fQ1 fQ2 fQ3 fQ4 fw fW1 fW2 fW3 fW4 fW5 fW6 fW7 eT eS eX eL eB eD e1 e2 eR ec1 ec2 ec3 eH eY eE eW eO er1 er2 er3 er4 eZ fJ) H) (hD : va_D A (WLD cI cS cJ oX nT aT nL aL nM aM oC o4 a41 a42 a43 o5 a51 a52 a53 oP nB aB oH h1 h2 oK k1 k2 oG g1 g2 oR n1 a1 n2 a2 n3 a3 r1 r2 r3 r4 r5 r6 oQ oE nq aq np ap nv av q1 q2 q3 q4 oW nw aw o7 o8 o9 w1 w2 w3 w4 w5 w6 w7 oM mT mS mX mL mB mD m1 m2 mR x1 x2 x3 mH mY mE mW mO y1 y2 y3 y4 mZ oJ fa lT lL lM l4 l5 ft lB lH lK gn lG lR l1 l2 l3 pr reE laE suE leE lq lp lv ke tl fsh wi ri fm lm lw re7 la7 su7 le7 re8 la8 su8 le8 re9 la9 su9 le9 zt zp zf zh zr zc zy za zb zs zq zw ze zn zm zl zk zd fT fL fM f41 f42 f43 f51 f52 f53 fB fH1 fH2 fK1 fK2 fG1 fG2 f1 f2 f3 fR1 fR2 fR3 fR4 fR5 fR6 fq fp fv fQ1 fQ2 fQ3 fQ4 fw fW1 fW2 fW3 fW4 fW5 fW6 fW7 eT eS eX eL eB eD e1 e2 eR ec1 ec2 ec3 eH eY eE eW eO er1 er2 er3 er4 eZ fJ)) (hS : va_S A s.heap H locs) (hl : lv_has ls 7 [(0, .ref b), (1, .ref oX), (2, .ref oM), (3, .ref oJ), (4, .int i)]) (kk : KK p l e s m below meth c dC dI cI cS cJ A b oX nT aT nL aL nM aM oC o4 a41 a42 a43 o5 a51 a52 a53 oP nB aB oH h1 h2 oK k1 k2 oG g1 g2 oR n1 a1 n2 a2 n3 a3 r1 r2 r3 r4 r5 r6 oQ oE nq aq np ap nv av q1 q2 q3 q4 oW nw aw o7 o8 o9 w1 w2 w3 w4 w5 w6 w7 oM mT mS mX mL mB mD m1 m2 mR x1 x2 x3 mH mY mE mW mO y1 y2 y3 y4 mZ oJ i nc) : W p l e room_1 s m #[Value.ref b] below meth c H locs (90 + nc) (172225 + 6 * nc) (lw_Z below #[Value.ref b] s) (F0 m 275 ls []) := by
  refine And.elim (fun hx hBC_0 => ?_) C0
  refine And.elim (fun hb hBC_1 => ?_) hBC_0
  refine And.elim (fun hr hBC_2 => ?_) hBC_1
  refine And.elim (fun hml hBC_3 => ?_) hBC_2
  refine And.elim (fun hown hBC_4 => ?_) hBC_3
  refine And.elim (fun hts0 hBC_5 => ?_) hBC_4
  refine And.elim (fun hX hBC_6 => ?_) hBC_5
  refine And.elim (fun hbl hBC_7 => ?_) hBC_6
  refine And.elim (fun hlocks hBC_8 => ?_) hBC_7
  have hgv := hBC_8
  clear hBC_0 hBC_1 hBC_2 hBC_3 hBC_4 hBC_5 hBC_6 hBC_7 hBC_8
  refine And.elim (fun g_lT hBI_0 => ?_) hI
  refine And.elim (fun g_lL hBI_1 => ?_) hBI_0
  refine And.elim (fun g_lM hBI_2 => ?_) hBI_1
  refine And.elim (fun g_lB hBI_3 => ?_) hBI_2
  refine And.elim (fun g_lH hBI_4 => ?_) hBI_3
  refine And.elim (fun g_lK hBI_5 => ?_) hBI_4
  refine And.elim (fun g_gn hBI_6 => ?_) hBI_5
  refine And.elim (fun g_lG hBI_7 => ?_) hBI_6
  refine And.elim (fun g_lR hBI_8 => ?_) hBI_7
  refine And.elim (fun g_l1 hBI_9 => ?_) hBI_8
  refine And.elim (fun g_l2 hBI_10 => ?_) hBI_9
  refine And.elim (fun g_l3 hBI_11 => ?_) hBI_10
  refine And.elim (fun g_lq hBI_12 => ?_) hBI_11
  refine And.elim (fun g_lp hBI_13 => ?_) hBI_12
  refine And.elim (fun g_lv hBI_14 => ?_) hBI_13
  refine And.elim (fun g_ke hBI_15 => ?_) hBI_14
  refine And.elim (fun g_fsh hBI_16 => ?_) hBI_15
  refine And.elim (fun g_fm hBI_17 => ?_) hBI_16
  refine And.elim (fun g_lm hBI_18 => ?_) hBI_17
  refine And.elim (fun g_lw hBI_19 => ?_) hBI_18
  refine And.elim (fun g_zt hBI_20 => ?_) hBI_19
  refine And.elim (fun g_zp hBI_21 => ?_) hBI_20
  refine And.elim (fun g_zf hBI_22 => ?_) hBI_21
  refine And.elim (fun g_zh hBI_23 => ?_) hBI_22
  refine And.elim (fun g_zr hBI_24 => ?_) hBI_23
  refine And.elim (fun g_zc hBI_25 => ?_) hBI_24
  refine And.elim (fun g_zy hBI_26 => ?_) hBI_25
  refine And.elim (fun g_za hBI_27 => ?_) hBI_26
  refine And.elim (fun g_zb hBI_28 => ?_) hBI_27
  refine And.elim (fun g_zs hBI_29 => ?_) hBI_28
  refine And.elim (fun g_zq hBI_30 => ?_) hBI_29
  refine And.elim (fun g_zn hBI_31 => ?_) hBI_30
  refine And.elim (fun g_zm hBI_32 => ?_) hBI_31
  refine And.elim (fun g_zk hBI_33 => ?_) hBI_32
  refine And.elim (fun g_fG2 hBI_34 => ?_) hBI_33
  refine And.elim (fun g_eS hBI_35 => ?_) hBI_34
  refine And.elim (fun g_eX hBI_36 => ?_) hBI_35
  refine And.elim (fun g_eL hBI_37 => ?_) hBI_36
  refine And.elim (fun g_eB hBI_38 => ?_) hBI_37
  refine And.elim (fun g_e1 hBI_39 => ?_) hBI_38
  refine And.elim (fun g_e2 hBI_40 => ?_) hBI_39
  refine And.elim (fun g_eY hBI_41 => ?_) hBI_40
  refine And.elim (fun g_eE hBI_42 => ?_) hBI_41
  refine And.elim (fun g_eW hBI_43 => ?_) hBI_42
  refine And.elim (fun g_eO hBI_44 => ?_) hBI_43
  refine And.elim (fun g_eZ hBI_45 => ?_) hBI_44
  refine And.elim (fun hzn hBI_46 => ?_) hBI_45
  refine And.elim (fun hrel hBI_47 => ?_) hBI_46
  refine And.elim (fun hrc hBI_48 => ?_) hBI_47
  refine And.elim (fun hr4 hBI_49 => ?_) hBI_48
  refine And.elim (fun hr5 hBI_50 => ?_) hBI_49
  refine And.elim (fun hb4 hBI_51 => ?_) hBI_50
  refine And.elim (fun hb5 hBI_52 => ?_) hBI_51
  refine And.elim (fun hlz hBI_53 => ?_) hBI_52
  refine And.elim (fun hH hBI_54 => ?_) hBI_53
  refine And.elim (fun hHe hBI_55 => ?_) hBI_54
  refine And.elim (fun hKz hBI_56 => ?_) hBI_55
  refine And.elim (fun hT hBI_57 => ?_) hBI_56
  refine And.elim (fun ho hBI_58 => ?_) hBI_57
  refine And.elim (fun hal hBI_59 => ?_) hBI_58
  refine And.elim (fun hCV hBI_60 => ?_) hBI_59
  refine And.elim (fun hVk hBI_61 => ?_) hBI_60
  refine And.elim (fun hVr hBI_62 => ?_) hBI_61
  refine And.elim (fun hTX hBI_63 => ?_) hBI_62
  refine And.elim (fun hCH hBI_64 => ?_) hBI_63
  refine And.elim (fun hvc hBI_65 => ?_) hBI_64
  refine And.elim (fun hfr hBI_66 => ?_) hBI_65
  refine And.elim (fun hfx hBI_67 => ?_) hBI_66
  have hfs := hBI_67
  clear hI hBI_0 hBI_1 hBI_2 hBI_3 hBI_4 hBI_5 hBI_6 hBI_7 hBI_8 hBI_9 hBI_10 hBI_11 hBI_12 hBI_13 hBI_14 hBI_15 hBI_16 hBI_17 hBI_18 hBI_19 hBI_20 hBI_21 hBI_22 hBI_23 hBI_24 hBI_25 hBI_26 hBI_27 hBI_28 hBI_29 hBI_30 hBI_31 hBI_32 hBI_33 hBI_34 hBI_35 hBI_36 hBI_37 hBI_38 hBI_39 hBI_40 hBI_41 hBI_42 hBI_43 hBI_44 hBI_45 hBI_46 hBI_47 hBI_48 hBI_49 hBI_50 hBI_51 hBI_52 hBI_53 hBI_54 hBI_55 hBI_56 hBI_57 hBI_58 hBI_59 hBI_60 hBI_61 hBI_62 hBI_63 hBI_64 hBI_65 hBI_66 hBI_67
  have hK : va_K (dC, dI) vwCl [(cI, .int), (cS, .short)] s := hK3.sub [0, 1] rfl
  have hown : s.vm.findClass RL = some m.cls := hown
  have hts := hts0
  have hcf := k_cf hx hb hml hown hts
  have hi9 : 0 ≤ i.toInt ∧ i.toInt ≤ 3066 := by omega
  have hzs : zs.toInt ≤ 1000000 := by omega
  have hA : ∀ q : Nat, s.heap.size ≤ q → A q := fun q h => by rw [hAd]; exact h
  have hbA : ¬ A b := by rw [hAd]; exact Nat.not_le.mpr hbl
  have hP : va_P (dC, dI) vwCl [(oX, .inr (11, [.ref nT, .ref nL, .ref nM, .ref oC, .ref oP, .ref oH, .ref oK, .ref oG, .ref oR, .ref oQ, .ref oW, .int fa])), (nT, .inr (5, [.ref aT, .int lT])), (aT, .inl (cI, 900, .inl fT)), (nL, .inr (5, [.ref aL, .int lL])), (aL, .inl (cI, 300, .inl fL)), (nM, .inr (5, [.ref aM, .int lM])), (aM, .inl (cI, 300, .inl fM)), (oC, .inr (2, [.ref o4, .ref o5])), (o4, .inr (10, [.ref a41, .ref a42, .ref a43, .int l4])), (a41, .inl (cI, 256, .inl f41)), (a42, .inl (cI, 512, .inl f42)), (a43, .inl (cI, 512, .inl f43)), (o5, .inr (10, [.ref a51, .ref a52, .ref a53, .int l5])), (a51, .inl (cI, 256, .inl f51)), (a52, .inl (cI, 512, .inl f52)), (a53, .inl (cI, 512, .inl f53)), (oP, .inr (7, [.ref oC, .ref nB, .int ft])), (nB, .inr (5, [.ref aB, .int lB])), (aB, .inl (cI, 2400, .inl fB)), (oH, .inr (4, [.ref oP, .ref h1, .ref h2, .int lH])), (h1, .inl (cI, 6, .inl fH1)), (h2, .inl (cI, 6, .inl fH2)), (oK, .inr (3, [.ref k1, .ref k2, .int lK])), (k1, .inl (cI, 1024, .inl fK1)), (k2, .inl (cI, 1024, .inl fK2)), (oG, .inr (0, [.ref g1, .ref g2, .int gn, .int lG])), (g1, .inl (cI, 6000, .inl fG1)), (g2, .inl (cI, 20, .inl fG2)), (oR, .inr (9, [.ref oH, .ref oK, .ref n1, .ref n2, .ref n3, .ref r1, .ref r2, .ref r3, .ref r4, .ref r5, .ref r6, .int lR])), (n1, .inr (5, [.ref a1, .int l1])), (a1, .inl (cI, 300, .inl f1)), (n2, .inr (5, [.ref a2, .int l2])), (a2, .inl (cI, 300, .inl f2)), (n3, .inr (5, [.ref a3, .int l3])), (a3, .inl (cI, 300, .inl f3)), (r1, .inl (cI, 258, .inl fR1)), (r2, .inl (cI, 258, .inl fR2)), (r3, .inl (cI, 774, .inl fR3)), (r4, .inl (cI, 258, .inl fR4)), (r5, .inl (cI, 258, .inl fR5)), (r6, .inl (cI, 774, .inl fR6)), (oQ, .inr (6, [.ref oC, .ref oH, .ref oK, .ref oE, .ref nq, .ref np, .ref nv, .ref q1, .ref q2, .ref q3, .ref q4, .int pr])), (oE, .inr (8, [.ref oC, .ref oK, .int reE, .int laE, .int suE, .int leE])), (nq, .inr (5, [.ref aq, .int lq])), (aq, .inl (cI, 480, .inl fq)), (np, .inr (5, [.ref ap, .int lp])), (ap, .inl (cI, 300, .inl fp)), (nv, .inr (5, [.ref av, .int lv])), (av, .inl (cI, 300, .inl fv)), (q1, .inl (cI, 61, .inl fQ1)), (q2, .inl (cI, 61, .inl fQ2)), (q3, .inl (cI, 61, .inl fQ3)), (q4, .inl (cI, 61, .inl fQ4)), (oW, .inr (1, [.ref oC, .ref oK, .ref nw, .ref w1, .ref w2, .ref w3, .ref o7, .ref o8, .ref o9, .ref w4, .ref w5, .ref w6, .ref w7, .int ke, .int tl, .int fsh, .int wi, .int ri, .int fm, .int lm])), (nw, .inr (5, [.ref aw, .int lw])), (aw, .inl (cI, 800, .inl fw)), (o7, .inr (8, [.ref oC, .ref oK, .int re7, .int la7, .int su7, .int le7])), (o8, .inr (8, [.ref oC, .ref oK, .int re8, .int la8, .int su8, .int le8])), (o9, .inr (8, [.ref oC, .ref oK, .int re9, .int la9, .int su9, .int le9])), (w1, .inl (cI, 801, .inl fW1)), (w2, .inl (cI, 801, .inl fW2)), (w3, .inl (cI, 801, .inl fW3)), (w4, .inl (cI, 200, .inl fW4)), (w5, .inl (cI, 200, .inl fW5)), (w6, .inl (cI, 200, .inl fW6)), (w7, .inl (cI, 200, .inl fW7)), (oM, .inr (12, [.ref mT, .int zt, .ref mS, .ref mX, .int zp, .int zf, .ref mL, .ref mB, .ref mD, .ref m1, .ref m2, .int zh, .ref mR, .int zr, .ref x1, .ref x2, .ref x3, .int zc, .ref mH, .int zy, .int za, .int zb, .int zs, .int zq, .int zw, .int ze, .ref mY, .int zn, .ref mE, .int zm, .int zl, .ref mW, .int zk, .ref mO, .int zd, .ref y1, .ref y2, .ref y3, .ref y4, .ref mZ])), (mT, .inl (cI, 900, .inl eT)), (mS, .inl (cI, 21, .inl eS)), (mX, .inl (cI, 6300, .inl eX)), (mL, .inl (cI, 512, .inl eL)), (mB, .inl (cS, 131072, .inl eB)), (mD, .inl (cI, 2, .inl eD)), (m1, .inl (cI, 6, .inl e1)), (m2, .inl (cI, 6, .inl e2)), (mR, .inl (cI, 1548, .inl eR)), (x1, .inl (cI, 300, .inl ec1)), (x2, .inl (cI, 300, .inl ec2)), (x3, .inl (cI, 300, .inl ec3)), (mH, .inl (cI, 800, .inl eH)), (mY, .inl (cI, 2600, .inl eY)), (mE, .inl (cI, 2600, .inl eE)), (mW, .inl (cI, 300, .inl eW)), (mO, .inl (cI, 300, .inl eO)), (y1, .inl (cI, 61, .inl er1)), (y2, .inl (cI, 61, .inl er2)), (y3, .inl (cI, 61, .inl er3)), (y4, .inl (cI, 61, .inl er4)), (mZ, .inl (cI, 600, .inl eZ)), (oJ, .inl (cJ, 1, .inr (.inl fJ)))] H := hP
  have hD : va_D A [(oX, .inr (11, [.ref nT, .ref nL, .ref nM, .ref oC, .ref oP, .ref oH, .ref oK, .ref oG, .ref oR, .ref oQ, .ref oW, .int fa])), (nT, .inr (5, [.ref aT, .int lT])), (aT, .inl (cI, 900, .inl fT)), (nL, .inr (5, [.ref aL, .int lL])), (aL, .inl (cI, 300, .inl fL)), (nM, .inr (5, [.ref aM, .int lM])), (aM, .inl (cI, 300, .inl fM)), (oC, .inr (2, [.ref o4, .ref o5])), (o4, .inr (10, [.ref a41, .ref a42, .ref a43, .int l4])), (a41, .inl (cI, 256, .inl f41)), (a42, .inl (cI, 512, .inl f42)), (a43, .inl (cI, 512, .inl f43)), (o5, .inr (10, [.ref a51, .ref a52, .ref a53, .int l5])), (a51, .inl (cI, 256, .inl f51)), (a52, .inl (cI, 512, .inl f52)), (a53, .inl (cI, 512, .inl f53)), (oP, .inr (7, [.ref oC, .ref nB, .int ft])), (nB, .inr (5, [.ref aB, .int lB])), (aB, .inl (cI, 2400, .inl fB)), (oH, .inr (4, [.ref oP, .ref h1, .ref h2, .int lH])), (h1, .inl (cI, 6, .inl fH1)), (h2, .inl (cI, 6, .inl fH2)), (oK, .inr (3, [.ref k1, .ref k2, .int lK])), (k1, .inl (cI, 1024, .inl fK1)), (k2, .inl (cI, 1024, .inl fK2)), (oG, .inr (0, [.ref g1, .ref g2, .int gn, .int lG])), (g1, .inl (cI, 6000, .inl fG1)), (g2, .inl (cI, 20, .inl fG2)), (oR, .inr (9, [.ref oH, .ref oK, .ref n1, .ref n2, .ref n3, .ref r1, .ref r2, .ref r3, .ref r4, .ref r5, .ref r6, .int lR])), (n1, .inr (5, [.ref a1, .int l1])), (a1, .inl (cI, 300, .inl f1)), (n2, .inr (5, [.ref a2, .int l2])), (a2, .inl (cI, 300, .inl f2)), (n3, .inr (5, [.ref a3, .int l3])), (a3, .inl (cI, 300, .inl f3)), (r1, .inl (cI, 258, .inl fR1)), (r2, .inl (cI, 258, .inl fR2)), (r3, .inl (cI, 774, .inl fR3)), (r4, .inl (cI, 258, .inl fR4)), (r5, .inl (cI, 258, .inl fR5)), (r6, .inl (cI, 774, .inl fR6)), (oQ, .inr (6, [.ref oC, .ref oH, .ref oK, .ref oE, .ref nq, .ref np, .ref nv, .ref q1, .ref q2, .ref q3, .ref q4, .int pr])), (oE, .inr (8, [.ref oC, .ref oK, .int reE, .int laE, .int suE, .int leE])), (nq, .inr (5, [.ref aq, .int lq])), (aq, .inl (cI, 480, .inl fq)), (np, .inr (5, [.ref ap, .int lp])), (ap, .inl (cI, 300, .inl fp)), (nv, .inr (5, [.ref av, .int lv])), (av, .inl (cI, 300, .inl fv)), (q1, .inl (cI, 61, .inl fQ1)), (q2, .inl (cI, 61, .inl fQ2)), (q3, .inl (cI, 61, .inl fQ3)), (q4, .inl (cI, 61, .inl fQ4)), (oW, .inr (1, [.ref oC, .ref oK, .ref nw, .ref w1, .ref w2, .ref w3, .ref o7, .ref o8, .ref o9, .ref w4, .ref w5, .ref w6, .ref w7, .int ke, .int tl, .int fsh, .int wi, .int ri, .int fm, .int lm])), (nw, .inr (5, [.ref aw, .int lw])), (aw, .inl (cI, 800, .inl fw)), (o7, .inr (8, [.ref oC, .ref oK, .int re7, .int la7, .int su7, .int le7])), (o8, .inr (8, [.ref oC, .ref oK, .int re8, .int la8, .int su8, .int le8])), (o9, .inr (8, [.ref oC, .ref oK, .int re9, .int la9, .int su9, .int le9])), (w1, .inl (cI, 801, .inl fW1)), (w2, .inl (cI, 801, .inl fW2)), (w3, .inl (cI, 801, .inl fW3)), (w4, .inl (cI, 200, .inl fW4)), (w5, .inl (cI, 200, .inl fW5)), (w6, .inl (cI, 200, .inl fW6)), (w7, .inl (cI, 200, .inl fW7)), (oM, .inr (12, [.ref mT, .int zt, .ref mS, .ref mX, .int zp, .int zf, .ref mL, .ref mB, .ref mD, .ref m1, .ref m2, .int zh, .ref mR, .int zr, .ref x1, .ref x2, .ref x3, .int zc, .ref mH, .int zy, .int za, .int zb, .int zs, .int zq, .int zw, .int ze, .ref mY, .int zn, .ref mE, .int zm, .int zl, .ref mW, .int zk, .ref mO, .int zd, .ref y1, .ref y2, .ref y3, .ref y4, .ref mZ])), (mT, .inl (cI, 900, .inl eT)), (mS, .inl (cI, 21, .inl eS)), (mX, .inl (cI, 6300, .inl eX)), (mL, .inl (cI, 512, .inl eL)), (mB, .inl (cS, 131072, .inl eB)), (mD, .inl (cI, 2, .inl eD)), (m1, .inl (cI, 6, .inl e1)), (m2, .inl (cI, 6, .inl e2)), (mR, .inl (cI, 1548, .inl eR)), (x1, .inl (cI, 300, .inl ec1)), (x2, .inl (cI, 300, .inl ec2)), (x3, .inl (cI, 300, .inl ec3)), (mH, .inl (cI, 800, .inl eH)), (mY, .inl (cI, 2600, .inl eY)), (mE, .inl (cI, 2600, .inl eE)), (mW, .inl (cI, 300, .inl eW)), (mO, .inl (cI, 300, .inl eO)), (y1, .inl (cI, 61, .inl er1)), (y2, .inl (cI, 61, .inl er2)), (y3, .inl (cI, 61, .inl er3)), (y4, .inl (cI, 61, .inl er4)), (mZ, .inl (cI, 600, .inl eZ)), (oJ, .inl (cJ, 1, .inr (.inl fJ)))] := hD
  have hN52 : va_Nw (.methodLinkNest RX2 52 yX11_isLetter "TextMender") s := va_Nw.of rfl (hts0 _ q_3_4)
  replace g_lM := hid g_lM
  replace g_lB := hid g_lB
  replace g_lR := hid g_lR
  replace g_l1 := hid g_l1
  replace g_l2 := hid g_l2
  replace g_l3 := hid g_l3
  replace g_lq := hid g_lq
  replace g_lp := hid g_lp
  replace g_lv := hid g_lv
  replace g_fm := hid g_fm
  replace g_lm := hid g_lm
  replace g_lw := hid g_lw
  replace g_zr := hid g_zr
  replace g_zn := hid g_zn
  replace g_zm := hid g_zm
  replace g_zk := hid g_zk
  refine lv_aload_n hx hb dL_law_275 rfl (lv_at hl 1 rfl) ?_
  refine lv_aload_n hx hb dL_law_276 rfl (lv_at hl 0 rfl) ?_
  refine lv_iload hx hb dL_law_277 (lv_at hl 4 rfl) ?_
  refine lv_iconst (v := 1) hx hb dL_law_279 (by decide) ?_
  refine lv_iadd hx hb dL_law_280 ?_
  refine lv_topi (fun x_1 ex_1 => ?_)
  have tx_1 : x_1.toInt = i.toInt + 1 := v_addR (l2 := 1) (h2 := 1) ex_1 hi9 (by decide) (by decide) (by decide)
  refine va_sld hx hb hX hbl hbA hS (v_in (v_sld5 tx_1 hi (by decide))) dL_law_281 ?_
  refine lv_topi (fun x_2 ex_2 => ?_)
  refine kV_i (rest := []) (q0 := 0) (ci := 11) hcf (f_X11_readE l dC dI cI cS H.size oX nT nL nM oC oP oH oK oG oR oQ oW aT aL aM g1 g2 nw w1 w2 w3 o7 o8 o9 w4 w5 w6 w7 nB o4 o5 a41 a42 a43 a51 a52 a53 fa lT fT lL fL lM fM gn lG fG1 fG2 ke tl fsh wi ri fm lm ft l4 f41 l5 f51 x_2 (g_lT) (g_lL) (g_lM) (g_gn) (g_lG) (g_fG2) (g_ke) (g_fsh) (g_fm) (g_lm) (TR_r hr4 g_eL) (TR_r hr5 g_eL)) kc_X11_read gL_law_X11_read rfl rfl rfl ⟨Nat.le_of_ble_eq_true rfl, Nat.le_of_ble_eq_true rfl⟩ (kX_1 hN52) hK hP hD hS hA ([0, 1, 2, 3, 4, 5, 6, 13, 14, 15, 16, 12, 7, 8, 9, 10, 11].filterMap (fun j => (posT mk_6 0)[j]?)) (posF mk_6 0) (kCp (ws := [(oX, .inr (11, [.ref nT, .ref nL, .ref nM, .ref oC, .ref oP, .ref oH, .ref oK, .ref oG, .ref oR, .ref oQ, .ref oW, .int fa])), (nT, .inr (5, [.ref aT, .int lT])), (aT, .inl (cI, 900, .inl fT)), (nL, .inr (5, [.ref aL, .int lL])), (aL, .inl (cI, 300, .inl fL)), (nM, .inr (5, [.ref aM, .int lM])), (aM, .inl (cI, 300, .inl fM)), (oC, .inr (2, [.ref o4, .ref o5])), (o4, .inr (10, [.ref a41, .ref a42, .ref a43, .int l4])), (a41, .inl (cI, 256, .inl f41)), (o5, .inr (10, [.ref a51, .ref a52, .ref a53, .int l5])), (a51, .inl (cI, 256, .inl f51)), (oP, .inr (7, [.ref oC, .ref nB, .int ft])), (oG, .inr (0, [.ref g1, .ref g2, .int gn, .int lG])), (g1, .inl (cI, 6000, .inl fG1)), (g2, .inl (cI, 20, .inl fG2)), (oW, .inr (1, [.ref oC, .ref oK, .ref nw, .ref w1, .ref w2, .ref w3, .ref o7, .ref o8, .ref o9, .ref w4, .ref w5, .ref w6, .ref w7, .int ke, .int tl, .int fsh, .int wi, .int ri, .int fm, .int lm]))]) (kC_of mk_6 rfl rfl) rfl) (by decide +kernel) rfl rfl rfl hl rfl (Nat.le_of_ble_eq_true rfl) dL_law_282 ⟨kfit1 hn (Nat.le_of_ble_eq_true rfl), ksix1 hn (Nat.le_of_ble_eq_true rfl)⟩ (fun r_3 H locs hB hJ hSn => ?_)
  refine Exists.elim hB (fun fa_3 hB3_0 => ?_)
  refine Exists.elim hB3_0 (fun lT_3 hB3_1 => ?_)
  refine Exists.elim hB3_1 (fun ft_3 hB3_2 => ?_)
  refine Exists.elim hB3_2 (fun lM_3 hB3_3 => ?_)
  refine Exists.elim hB3_3 (fun fM_3 hB3_4 => ?_)
  refine Exists.elim hB3_4 (fun lL_3 hB3_5 => ?_)
  refine Exists.elim hB3_5 (fun fL_3 hB3_6 => ?_)
  refine Exists.elim hB3_6 (fun fsh_3 hB3_7 => ?_)
  refine Exists.elim hB3_7 (fun gn_3 hB3_8 => ?_)
  refine Exists.elim hB3_8 (fun lG_3 hB3_9 => ?_)
  refine Exists.elim hB3_9 (fun fG1_3 hB3_10 => ?_)
  refine Exists.elim hB3_10 (fun fG2_3 hB3_11 => ?_)
  refine And.elim (fun hPD9 hB3_12 => ?_) hB3_11
  refine And.elim (fun hf3_0 hB3_13 => ?_) hB3_12
  refine And.elim (fun hf3_1 hB3_14 => ?_) hB3_13
  refine And.elim (fun hf3_2 hB3_15 => ?_) hB3_14
  refine And.elim (fun hf3_3 hB3_16 => ?_) hB3_15
  refine And.elim (fun hf3_4 hB3_17 => ?_) hB3_16
  refine And.elim (fun hf3_5 hB3_18 => ?_) hB3_17
  refine And.elim (fun hf3_6 hB3_19 => ?_) hB3_18
  refine And.elim (fun hf3_7 hB3_20 => ?_) hB3_19
  have hf3_8 := hB3_20
  clear hB hB3_0 hB3_1 hB3_2 hB3_3 hB3_4 hB3_5 hB3_6 hB3_7 hB3_8 hB3_9 hB3_10 hB3_11 hB3_12 hB3_13 hB3_14 hB3_15 hB3_16 hB3_17 hB3_18 hB3_19 hB3_20
  obtain ⟨hPn, hDn⟩ := kJm (m := mk_6) hJ rfl hPD9.1 hPD9.2 [0, 1, 2, 3, 4, 5, 6, 12, 13, 14, 15, 16, 11, 7, 8, 9, 10] (by decide +kernel) (ws := [(oX, .inr (11, [.ref nT, .ref nL, .ref nM, .ref oC, .ref oP, .ref oH, .ref oK, .ref oG, .ref oR, .ref oQ, .ref oW, .int fa_3])), (nT, .inr (5, [.ref aT, .int lT_3])), (aT, .inl (cI, 900, .inl fT)), (nL, .inr (5, [.ref aL, .int lL_3])), (aL, .inl (cI, 300, .inl fL_3)), (nM, .inr (5, [.ref aM, .int lM_3])), (aM, .inl (cI, 300, .inl fM_3)), (oC, .inr (2, [.ref o4, .ref o5])), (o4, .inr (10, [.ref a41, .ref a42, .ref a43, .int l4])), (a41, .inl (cI, 256, .inl f41)), (o5, .inr (10, [.ref a51, .ref a52, .ref a53, .int l5])), (a51, .inl (cI, 256, .inl f51)), (oP, .inr (7, [.ref oC, .ref nB, .int ft_3])), (oG, .inr (0, [.ref g1, .ref g2, .int gn_3, .int lG_3])), (g1, .inl (cI, 6000, .inl fG1_3)), (g2, .inl (cI, 20, .inl fG2_3)), (oW, .inr (1, [.ref oC, .ref oK, .ref nw, .ref w1, .ref w2, .ref w3, .ref o7, .ref o8, .ref o9, .ref w4, .ref w5, .ref w6, .ref w7, .int ke, .int tl, .int fsh_3, .int wi, .int ri, .int fm, .int lm]))]) rfl (wn := [(oX, .inr (11, [.ref nT, .ref nL, .ref nM, .ref oC, .ref oP, .ref oH, .ref oK, .ref oG, .ref oR, .ref oQ, .ref oW, .int fa_3])), (nT, .inr (5, [.ref aT, .int lT_3])), (aT, .inl (cI, 900, .inl fT)), (nL, .inr (5, [.ref aL, .int lL_3])), (aL, .inl (cI, 300, .inl fL_3)), (nM, .inr (5, [.ref aM, .int lM_3])), (aM, .inl (cI, 300, .inl fM_3)), (oC, .inr (2, [.ref o4, .ref o5])), (o4, .inr (10, [.ref a41, .ref a42, .ref a43, .int l4])), (a41, .inl (cI, 256, .inl f41)), (a42, .inl (cI, 512, .inl f42)), (a43, .inl (cI, 512, .inl f43)), (o5, .inr (10, [.ref a51, .ref a52, .ref a53, .int l5])), (a51, .inl (cI, 256, .inl f51)), (a52, .inl (cI, 512, .inl f52)), (a53, .inl (cI, 512, .inl f53)), (oP, .inr (7, [.ref oC, .ref nB, .int ft_3])), (nB, .inr (5, [.ref aB, .int lB])), (aB, .inl (cI, 2400, .inl fB)), (oH, .inr (4, [.ref oP, .ref h1, .ref h2, .int lH])), (h1, .inl (cI, 6, .inl fH1)), (h2, .inl (cI, 6, .inl fH2)), (oK, .inr (3, [.ref k1, .ref k2, .int lK])), (k1, .inl (cI, 1024, .inl fK1)), (k2, .inl (cI, 1024, .inl fK2)), (oG, .inr (0, [.ref g1, .ref g2, .int gn_3, .int lG_3])), (g1, .inl (cI, 6000, .inl fG1_3)), (g2, .inl (cI, 20, .inl fG2_3)), (oR, .inr (9, [.ref oH, .ref oK, .ref n1, .ref n2, .ref n3, .ref r1, .ref r2, .ref r3, .ref r4, .ref r5, .ref r6, .int lR])), (n1, .inr (5, [.ref a1, .int l1])), (a1, .inl (cI, 300, .inl f1)), (n2, .inr (5, [.ref a2, .int l2])), (a2, .inl (cI, 300, .inl f2)), (n3, .inr (5, [.ref a3, .int l3])), (a3, .inl (cI, 300, .inl f3)), (r1, .inl (cI, 258, .inl fR1)), (r2, .inl (cI, 258, .inl fR2)), (r3, .inl (cI, 774, .inl fR3)), (r4, .inl (cI, 258, .inl fR4)), (r5, .inl (cI, 258, .inl fR5)), (r6, .inl (cI, 774, .inl fR6)), (oQ, .inr (6, [.ref oC, .ref oH, .ref oK, .ref oE, .ref nq, .ref np, .ref nv, .ref q1, .ref q2, .ref q3, .ref q4, .int pr])), (oE, .inr (8, [.ref oC, .ref oK, .int reE, .int laE, .int suE, .int leE])), (nq, .inr (5, [.ref aq, .int lq])), (aq, .inl (cI, 480, .inl fq)), (np, .inr (5, [.ref ap, .int lp])), (ap, .inl (cI, 300, .inl fp)), (nv, .inr (5, [.ref av, .int lv])), (av, .inl (cI, 300, .inl fv)), (q1, .inl (cI, 61, .inl fQ1)), (q2, .inl (cI, 61, .inl fQ2)), (q3, .inl (cI, 61, .inl fQ3)), (q4, .inl (cI, 61, .inl fQ4)), (oW, .inr (1, [.ref oC, .ref oK, .ref nw, .ref w1, .ref w2, .ref w3, .ref o7, .ref o8, .ref o9, .ref w4, .ref w5, .ref w6, .ref w7, .int ke, .int tl, .int fsh_3, .int wi, .int ri, .int fm, .int lm])), (nw, .inr (5, [.ref aw, .int lw])), (aw, .inl (cI, 800, .inl fw)), (o7, .inr (8, [.ref oC, .ref oK, .int re7, .int la7, .int su7, .int le7])), (o8, .inr (8, [.ref oC, .ref oK, .int re8, .int la8, .int su8, .int le8])), (o9, .inr (8, [.ref oC, .ref oK, .int re9, .int la9, .int su9, .int le9])), (w1, .inl (cI, 801, .inl fW1)), (w2, .inl (cI, 801, .inl fW2)), (w3, .inl (cI, 801, .inl fW3)), (w4, .inl (cI, 200, .inl fW4)), (w5, .inl (cI, 200, .inl fW5)), (w6, .inl (cI, 200, .inl fW6)), (w7, .inl (cI, 200, .inl fW7)), (oM, .inr (12, [.ref mT, .int zt, .ref mS, .ref mX, .int zp, .int zf, .ref mL, .ref mB, .ref mD, .ref m1, .ref m2, .int zh, .ref mR, .int zr, .ref x1, .ref x2, .ref x3, .int zc, .ref mH, .int zy, .int za, .int zb, .int zs, .int zq, .int zw, .int ze, .ref mY, .int zn, .ref mE, .int zm, .int zl, .ref mW, .int zk, .ref mO, .int zd, .ref y1, .ref y2, .ref y3, .ref y4, .ref mZ])), (mT, .inl (cI, 900, .inl eT)), (mS, .inl (cI, 21, .inl eS)), (mX, .inl (cI, 6300, .inl eX)), (mL, .inl (cI, 512, .inl eL)), (mB, .inl (cS, 131072, .inl eB)), (mD, .inl (cI, 2, .inl eD)), (m1, .inl (cI, 6, .inl e1)), (m2, .inl (cI, 6, .inl e2)), (mR, .inl (cI, 1548, .inl eR)), (x1, .inl (cI, 300, .inl ec1)), (x2, .inl (cI, 300, .inl ec2)), (x3, .inl (cI, 300, .inl ec3)), (mH, .inl (cI, 800, .inl eH)), (mY, .inl (cI, 2600, .inl eY)), (mE, .inl (cI, 2600, .inl eE)), (mW, .inl (cI, 300, .inl eW)), (mO, .inl (cI, 300, .inl eO)), (y1, .inl (cI, 61, .inl er1)), (y2, .inl (cI, 61, .inl er2)), (y3, .inl (cI, 61, .inl er3)), (y4, .inl (cI, 61, .inl er4)), (mZ, .inl (cI, 600, .inl eZ)), (oJ, .inl (cJ, 1, .inr (.inl fJ)))]) rfl
  clear hP hD hS hJ hPD9
  have hP := hPn
  have hD := hDn
  have hS := hSn
  clear hPn hDn hSn
  refine lv_pop hx hb dL_law_285 rfl ?_
  refine lv_aload_n hx hb dL_law_286 rfl (lv_at hl 2 rfl) ?_
  refine lv_aload_n hx hb dL_law_287 rfl (lv_at hl 0 rfl) ?_
  refine lv_iload hx hb dL_law_288 (lv_at hl 4 rfl) ?_
  refine lv_iconst (v := 1) hx hb dL_law_290 (by decide) ?_
  refine lv_iadd hx hb dL_law_291 ?_
  refine lv_topi (fun x_4 ex_4 => ?_)
  have tx_4 : x_4.toInt = i.toInt + 1 := v_addR (l2 := 1) (h2 := 1) ex_4 hi9 (by decide) (by decide) (by decide)
  refine va_sld hx hb hX hbl hbA hS (v_in (v_sld5 tx_4 hi (by decide))) dL_law_292 ?_
  refine lv_topi (fun x_5 ex_5 => ?_)
  have es_5 : x_5 = x_2 := by rw [ex_5, ex_2, ex_4, ex_1]
  rw [es_5]
  refine kV_i (rest := []) (q0 := 0) (ci := 12) hcf (f_X12_readE l dC dI cI cS H.size oM mT mS mX mL mB mD m1 m2 mR x1 x2 x3 mH mY mE mW mO y1 y2 y3 y4 mZ zt zp zf zh zr zc zy za zb zs zq zw ze zn zm zl zk zd eT eY eL eE eS eX x_2 (g_zt) (g_zp) (g_zf) (g_zh) (g_zr) (g_zc) (g_zy) (g_za) (g_zb) (g_zs) (g_zq) (g_zn) (g_zm) (g_zk) (g_eY) (g_eL) (g_eE) (g_eS) (g_eX) (by omega)) kc_X12_read_ gL_law_X12_read_ rfl rfl rfl ⟨Nat.le_of_ble_eq_true rfl, Nat.le_of_ble_eq_true rfl⟩ kX_t hK hP hD hS hA ([0, 1, 5, 4, 6, 2, 3].filterMap (fun j => (posT mk_7 0)[j]?)) (posF mk_7 0) (kCp (ws := [(oM, .inr (12, [.ref mT, .int zt, .ref mS, .ref mX, .int zp, .int zf, .ref mL, .ref mB, .ref mD, .ref m1, .ref m2, .int zh, .ref mR, .int zr, .ref x1, .ref x2, .ref x3, .int zc, .ref mH, .int zy, .int za, .int zb, .int zs, .int zq, .int zw, .int ze, .ref mY, .int zn, .ref mE, .int zm, .int zl, .ref mW, .int zk, .ref mO, .int zd, .ref y1, .ref y2, .ref y3, .ref y4, .ref mZ])), (mT, .inl (cI, 900, .inl eT)), (mS, .inl (cI, 21, .inl eS)), (mX, .inl (cI, 6300, .inl eX)), (mL, .inl (cI, 512, .inl eL)), (mY, .inl (cI, 2600, .inl eY)), (mE, .inl (cI, 2600, .inl eE))]) (kC_of mk_7 rfl rfl) rfl) (by decide +kernel) rfl rfl rfl hl rfl (Nat.le_of_ble_eq_true rfl) dL_law_293 ⟨kfit2 hn (Nat.le_of_ble_eq_true rfl), ksix2 hn (Nat.le_of_ble_eq_true rfl)⟩ (fun r_6 H locs hB hJ hSn => ?_)
  refine Exists.elim hB (fun ze_6 hB6_0 => ?_)
  refine Exists.elim hB6_0 (fun zw_6 hB6_1 => ?_)
  refine Exists.elim hB6_1 (fun zt_6 hB6_2 => ?_)
  refine Exists.elim hB6_2 (fun eY_6 hB6_3 => ?_)
  refine Exists.elim hB6_3 (fun zn_6 hB6_4 => ?_)
  refine Exists.elim hB6_4 (fun zd_6 hB6_5 => ?_)
  refine Exists.elim hB6_5 (fun zm_6 hB6_6 => ?_)
  refine Exists.elim hB6_6 (fun zl_6 hB6_7 => ?_)
  refine Exists.elim hB6_7 (fun eE_6 hB6_8 => ?_)
  refine Exists.elim hB6_8 (fun zp_6 hB6_9 => ?_)
  refine Exists.elim hB6_9 (fun zf_6 hB6_10 => ?_)
  refine Exists.elim hB6_10 (fun zs_6 hB6_11 => ?_)
  refine Exists.elim hB6_11 (fun eS_6 hB6_12 => ?_)
  refine Exists.elim hB6_12 (fun eX_6 hB6_13 => ?_)
  refine And.elim (fun hPD9 hB6_14 => ?_) hB6_13
  refine And.elim (fun hf6_0 hB6_15 => ?_) hB6_14
  refine And.elim (fun hf6_1 hB6_16 => ?_) hB6_15
  refine And.elim (fun hf6_2 hB6_17 => ?_) hB6_16
  refine And.elim (fun hf6_3 hB6_18 => ?_) hB6_17
  refine And.elim (fun hf6_4 hB6_19 => ?_) hB6_18
  refine And.elim (fun hf6_5 hB6_20 => ?_) hB6_19
  refine And.elim (fun hf6_6 hB6_21 => ?_) hB6_20
  refine And.elim (fun hf6_7 hB6_22 => ?_) hB6_21
  refine And.elim (fun hf6_8 hB6_23 => ?_) hB6_22
  refine And.elim (fun hf6_9 hB6_24 => ?_) hB6_23
  refine And.elim (fun hf6_10 hB6_25 => ?_) hB6_24
  refine And.elim (fun hf6_11 hB6_26 => ?_) hB6_25
  refine And.elim (fun hf6_12 hB6_27 => ?_) hB6_26
  have hf6_13 := hB6_27
  clear hB hB6_0 hB6_1 hB6_2 hB6_3 hB6_4 hB6_5 hB6_6 hB6_7 hB6_8 hB6_9 hB6_10 hB6_11 hB6_12 hB6_13 hB6_14 hB6_15 hB6_16 hB6_17 hB6_18 hB6_19 hB6_20 hB6_21 hB6_22 hB6_23 hB6_24 hB6_25 hB6_26 hB6_27
  obtain ⟨hPn, hDn⟩ := kJm (m := mk_7) hJ rfl hPD9.1 hPD9.2 [0, 1, 5, 6, 3, 2, 4] (by decide +kernel) (ws := [(oM, .inr (12, [.ref mT, .int zt_6, .ref mS, .ref mX, .int zp_6, .int zf_6, .ref mL, .ref mB, .ref mD, .ref m1, .ref m2, .int zh, .ref mR, .int zr, .ref x1, .ref x2, .ref x3, .int zc, .ref mH, .int zy, .int za, .int zb, .int zs_6, .int zq, .int zw_6, .int ze_6, .ref mY, .int zn_6, .ref mE, .int zm_6, .int zl_6, .ref mW, .int zk, .ref mO, .int zd_6, .ref y1, .ref y2, .ref y3, .ref y4, .ref mZ])), (mT, .inl (cI, 900, .inl eT)), (mS, .inl (cI, 21, .inl eS_6)), (mX, .inl (cI, 6300, .inl eX_6)), (mL, .inl (cI, 512, .inl eL)), (mY, .inl (cI, 2600, .inl eY_6)), (mE, .inl (cI, 2600, .inl eE_6))]) rfl (wn := [(oX, .inr (11, [.ref nT, .ref nL, .ref nM, .ref oC, .ref oP, .ref oH, .ref oK, .ref oG, .ref oR, .ref oQ, .ref oW, .int fa_3])), (nT, .inr (5, [.ref aT, .int lT_3])), (aT, .inl (cI, 900, .inl fT)), (nL, .inr (5, [.ref aL, .int lL_3])), (aL, .inl (cI, 300, .inl fL_3)), (nM, .inr (5, [.ref aM, .int lM_3])), (aM, .inl (cI, 300, .inl fM_3)), (oC, .inr (2, [.ref o4, .ref o5])), (o4, .inr (10, [.ref a41, .ref a42, .ref a43, .int l4])), (a41, .inl (cI, 256, .inl f41)), (a42, .inl (cI, 512, .inl f42)), (a43, .inl (cI, 512, .inl f43)), (o5, .inr (10, [.ref a51, .ref a52, .ref a53, .int l5])), (a51, .inl (cI, 256, .inl f51)), (a52, .inl (cI, 512, .inl f52)), (a53, .inl (cI, 512, .inl f53)), (oP, .inr (7, [.ref oC, .ref nB, .int ft_3])), (nB, .inr (5, [.ref aB, .int lB])), (aB, .inl (cI, 2400, .inl fB)), (oH, .inr (4, [.ref oP, .ref h1, .ref h2, .int lH])), (h1, .inl (cI, 6, .inl fH1)), (h2, .inl (cI, 6, .inl fH2)), (oK, .inr (3, [.ref k1, .ref k2, .int lK])), (k1, .inl (cI, 1024, .inl fK1)), (k2, .inl (cI, 1024, .inl fK2)), (oG, .inr (0, [.ref g1, .ref g2, .int gn_3, .int lG_3])), (g1, .inl (cI, 6000, .inl fG1_3)), (g2, .inl (cI, 20, .inl fG2_3)), (oR, .inr (9, [.ref oH, .ref oK, .ref n1, .ref n2, .ref n3, .ref r1, .ref r2, .ref r3, .ref r4, .ref r5, .ref r6, .int lR])), (n1, .inr (5, [.ref a1, .int l1])), (a1, .inl (cI, 300, .inl f1)), (n2, .inr (5, [.ref a2, .int l2])), (a2, .inl (cI, 300, .inl f2)), (n3, .inr (5, [.ref a3, .int l3])), (a3, .inl (cI, 300, .inl f3)), (r1, .inl (cI, 258, .inl fR1)), (r2, .inl (cI, 258, .inl fR2)), (r3, .inl (cI, 774, .inl fR3)), (r4, .inl (cI, 258, .inl fR4)), (r5, .inl (cI, 258, .inl fR5)), (r6, .inl (cI, 774, .inl fR6)), (oQ, .inr (6, [.ref oC, .ref oH, .ref oK, .ref oE, .ref nq, .ref np, .ref nv, .ref q1, .ref q2, .ref q3, .ref q4, .int pr])), (oE, .inr (8, [.ref oC, .ref oK, .int reE, .int laE, .int suE, .int leE])), (nq, .inr (5, [.ref aq, .int lq])), (aq, .inl (cI, 480, .inl fq)), (np, .inr (5, [.ref ap, .int lp])), (ap, .inl (cI, 300, .inl fp)), (nv, .inr (5, [.ref av, .int lv])), (av, .inl (cI, 300, .inl fv)), (q1, .inl (cI, 61, .inl fQ1)), (q2, .inl (cI, 61, .inl fQ2)), (q3, .inl (cI, 61, .inl fQ3)), (q4, .inl (cI, 61, .inl fQ4)), (oW, .inr (1, [.ref oC, .ref oK, .ref nw, .ref w1, .ref w2, .ref w3, .ref o7, .ref o8, .ref o9, .ref w4, .ref w5, .ref w6, .ref w7, .int ke, .int tl, .int fsh_3, .int wi, .int ri, .int fm, .int lm])), (nw, .inr (5, [.ref aw, .int lw])), (aw, .inl (cI, 800, .inl fw)), (o7, .inr (8, [.ref oC, .ref oK, .int re7, .int la7, .int su7, .int le7])), (o8, .inr (8, [.ref oC, .ref oK, .int re8, .int la8, .int su8, .int le8])), (o9, .inr (8, [.ref oC, .ref oK, .int re9, .int la9, .int su9, .int le9])), (w1, .inl (cI, 801, .inl fW1)), (w2, .inl (cI, 801, .inl fW2)), (w3, .inl (cI, 801, .inl fW3)), (w4, .inl (cI, 200, .inl fW4)), (w5, .inl (cI, 200, .inl fW5)), (w6, .inl (cI, 200, .inl fW6)), (w7, .inl (cI, 200, .inl fW7)), (oM, .inr (12, [.ref mT, .int zt_6, .ref mS, .ref mX, .int zp_6, .int zf_6, .ref mL, .ref mB, .ref mD, .ref m1, .ref m2, .int zh, .ref mR, .int zr, .ref x1, .ref x2, .ref x3, .int zc, .ref mH, .int zy, .int za, .int zb, .int zs_6, .int zq, .int zw_6, .int ze_6, .ref mY, .int zn_6, .ref mE, .int zm_6, .int zl_6, .ref mW, .int zk, .ref mO, .int zd_6, .ref y1, .ref y2, .ref y3, .ref y4, .ref mZ])), (mT, .inl (cI, 900, .inl eT)), (mS, .inl (cI, 21, .inl eS_6)), (mX, .inl (cI, 6300, .inl eX_6)), (mL, .inl (cI, 512, .inl eL)), (mB, .inl (cS, 131072, .inl eB)), (mD, .inl (cI, 2, .inl eD)), (m1, .inl (cI, 6, .inl e1)), (m2, .inl (cI, 6, .inl e2)), (mR, .inl (cI, 1548, .inl eR)), (x1, .inl (cI, 300, .inl ec1)), (x2, .inl (cI, 300, .inl ec2)), (x3, .inl (cI, 300, .inl ec3)), (mH, .inl (cI, 800, .inl eH)), (mY, .inl (cI, 2600, .inl eY_6)), (mE, .inl (cI, 2600, .inl eE_6)), (mW, .inl (cI, 300, .inl eW)), (mO, .inl (cI, 300, .inl eO)), (y1, .inl (cI, 61, .inl er1)), (y2, .inl (cI, 61, .inl er2)), (y3, .inl (cI, 61, .inl er3)), (y4, .inl (cI, 61, .inl er4)), (mZ, .inl (cI, 600, .inl eZ)), (oJ, .inl (cJ, 1, .inr (.inl fJ)))]) rfl
  clear hP hD hS hJ hPD9
  have hP := hPn
  have hD := hDn
  have hS := hSn
  clear hPn hDn hSn
  refine lv_pop hx hb dL_law_296 rfl ?_
  refine lv_goto (tgt := 1022) hx hb dL_law_297 (by decide) ?_
  have hcg := chg_rel hTX hCH hf3_8 hf6_13 (rd_iff hrel hrc (TR_L4 hr4) (TR_L5 hr5)) (rd_ok hlz) g_lL.1 g_lL.2 g_gn g_zp g_zf g_fG2
  have hdf : DFr fsh fsh_3 zs zs_6 := hcg.2.2.2
  refine W.widen (k := 90 + (nc + 1)) (n := 172225 + 6 * (nc + 1)) (by omega) (by omega) ?_
  exact kk fa_3 lT_3 lL_3 lM_3 l4 l5 ft_3 lB lH lK gn_3 lG_3 lR l1 l2 l3 pr reE laE suE leE lq lp lv ke tl fsh_3 wi ri fm lm lw re7 la7 su7 le7 re8 la8 su8 le8 re9 la9 su9 le9 zt_6 zp_6 zf_6 zh zr zc zy za zb zs_6 zq zw_6 ze_6 zn_6 zm_6 zl_6 zk zd_6 fT fL_3 fM_3 f41 f42 f43 f51 f52 f53 fB fH1 fH2 fK1 fK2 fG1_3 fG2_3 f1 f2 f3 fR1 fR2 fR3 fR4 fR5 fR6 fq fp fv fQ1 fQ2 fQ3 fQ4 fw fW1 fW2 fW3 fW4 fW5 fW6 fW7 eT eS_6 eX_6 eL eB eD e1 e2 eR ec1 ec2 ec3 eH eY_6 eE_6 eW eO er1 er2 er3 er4 eZ fJ _ _ _ ⟨hf3_0, hf3_2, hf3_1, g_lB, g_lH, g_lK, hf3_4, hf3_5, g_lR, g_l1, g_l2, g_l3, g_lq, g_lp, g_lv, g_ke, hf3_3, g_fm, g_lm, g_lw, hf6_0, hf6_5, hf6_6, g_zh, g_zr, g_zc, g_zy, g_za, g_zb, hf6_7, g_zq, hf6_2, hf6_3, g_zk, hf3_6, hf6_8, hf6_9, g_eL, g_eB, g_e1, g_e2, hf6_1, hf6_4, g_eW, g_eO, g_eZ, by omega, by show lT_3.toInt = zt_6.toInt; omega, eqT_le hrc (by omega), hr4, hr5, hb4, hb5, hlz, hH, hHe, hKz, hT, ho, hal, hCV, hVk, hVr, hcg.2.1, hcg.2.2.1, hvc, fr_d hfr hdf, fx_d hfx hdf, frs_st hfs hfr hf6_12⟩ hP hD hS (lv_sub hl [0, 1, 2, 3, 4] rfl)

set_option maxHeartbeats 40000000 in
set_option maxRecDepth 100000 in
theorem law_span {p : Program} {l : Launch} {e : Env} {s : State} {m : MethodId} {below : List Frame} {meth : Method} {c : Code} {dC : Nat → ClassId} {dI : Nat → Nat → Nat} {cI cS cJ : ClassId} {A : Nat → Prop} {b L : Nat} {xs : Nat → Int32} (C0 : lw_At p s m meth c b L xs) (hAd : A = fun q : Nat => s.heap.size ≤ q) (hK3 : va_K (dC, dI) vwCl [(cI, .int), (cS, .short), (cJ, .long)] s) {oX nT aT nL aL nM aM oC o4 a41 a42 a43 o5 a51 a52 a53 oP nB aB oH h1 h2 oK k1 k2 oG g1 g2 oR n1 a1 n2 a2 n3 a3 r1 r2 r3 r4 r5 r6 oQ oE nq aq np ap nv av q1 q2 q3 q4 oW nw aw o7 o8 o9 w1 w2 w3 w4 w5 w6 w7 oM mT mS mX mL mB mD m1 m2 mR x1 x2 x3 mH mY mE mW mO y1 y2 y3 y4 mZ oJ : Nat} {fa : Int32} {lT : Int32} {lL : Int32} {lM : Int32} {l4 : Int32} {l5 : Int32} {ft : Int32} {lB : Int32} {lH : Int32} {lK : Int32} {gn : Int32} {lG : Int32} {lR : Int32} {l1 : Int32} {l2 : Int32} {l3 : Int32} {pr : Int32} {reE : Int32} {laE : Int32} {suE : Int32} {leE : Int32} {lq : Int32} {lp : Int32} {lv : Int32} {ke : Int32} {tl : Int32} {fsh : Int32} {wi : Int32} {ri : Int32} {fm : Int32} {lm : Int32} {lw : Int32} {re7 : Int32} {la7 : Int32} {su7 : Int32} {le7 : Int32} {re8 : Int32} {la8 : Int32} {su8 : Int32} {le8 : Int32} {re9 : Int32} {la9 : Int32} {su9 : Int32} {le9 : Int32} {zt : Int32} {zp : Int32} {zf : Int32} {zh : Int32} {zr : Int32} {zc : Int32} {zy : Int32} {za : Int32} {zb : Int32} {zs : Int32} {zq : Int32} {zw : Int32} {ze : Int32} {zn : Int32} {zm : Int32} {zl : Int32} {zk : Int32} {zd : Int32} {fT : Nat → Int32} {fL : Nat → Int32} {fM : Nat → Int32} {f41 : Nat → Int32} {f42 : Nat → Int32} {f43 : Nat → Int32} {f51 : Nat → Int32} {f52 : Nat → Int32} {f53 : Nat → Int32} {fB : Nat → Int32} {fH1 : Nat → Int32} {fH2 : Nat → Int32} {fK1 : Nat → Int32} {fK2 : Nat → Int32} {fG1 : Nat → Int32} {fG2 : Nat → Int32} {f1 : Nat → Int32} {f2 : Nat → Int32} {f3 : Nat → Int32} {fR1 : Nat → Int32} {fR2 : Nat → Int32} {fR3 : Nat → Int32} {fR4 : Nat → Int32} {fR5 : Nat → Int32} {fR6 : Nat → Int32} {fq : Nat → Int32} {fp : Nat → Int32} {fv : Nat → Int32} {fQ1 : Nat → Int32} {fQ2 : Nat → Int32} {fQ3 : Nat → Int32} {fQ4 : Nat → Int32} {fw : Nat → Int32} {fW1 : Nat → Int32} {fW2 : Nat → Int32} {fW3 : Nat → Int32} {fW4 : Nat → Int32} {fW5 : Nat → Int32} {fW6 : Nat → Int32} {fW7 : Nat → Int32} {eT : Nat → Int32} {eS : Nat → Int32} {eX : Nat → Int32} {eL : Nat → Int32} {eB : Nat → Int32} {eD : Nat → Int32} {e1 : Nat → Int32} {e2 : Nat → Int32} {eR : Nat → Int32} {ec1 : Nat → Int32} {ec2 : Nat → Int32} {ec3 : Nat → Int32} {eH : Nat → Int32} {eY : Nat → Int32} {eE : Nat → Int32} {eW : Nat → Int32} {eO : Nat → Int32} {er1 : Nat → Int32} {er2 : Nat → Int32} {er3 : Nat → Int32} {er4 : Nat → Int32} {eZ : Nat → Int32} {fJ : Nat → Int64} {H : Heap} {locs : List Loc} {ls : Array Slot} {i : Int32} {nc : Nat} (hn : nc ≤ 511) (hi : 0 ≤ i.toInt ∧ i.toInt + 5 < (L : Int)) (hL : L ≤ 3072) (hI : INV nc lT lL lM l4 l5 lB lH lK gn lG lR l1 l2 l3 lq lp lv ke fsh wi ri fm lm lw zt zp zf zh zr zc zy za zb zs zq zn zm zk fT fL f41 f42 f43 f51 f52 f53 fH1 fH2 fK1 fK2 fG1 fG2 fW4 fW5 fW6 fW7 eT eS eX eL eB eD e1 e2 ec1 ec2 ec3 eH eY eE eW eO eZ) (hP : va_P (dC, dI) vwCl (WLD cI cS cJ oX nT aT nL aL nM aM oC o4 a41 a42 a43 o5 a51 a52 a53 oP nB aB oH h1 h2 oK k1 k2 oG g1 g2 oR n1 a1 n2 a2 n3 a3 r1 r2 r3 r4 r5 r6 oQ oE nq aq np ap nv av q1 q2 q3 q4 oW nw aw o7 o8 o9 w1 w2 w3 w4 w5 w6 w7 oM mT mS mX mL mB mD m1 m2 mR x1 x2 x3 mH mY mE mW mO y1 y2 y3 y4 mZ oJ fa lT lL lM l4 l5 ft lB lH lK gn lG lR l1 l2 l3 pr reE laE suE leE lq lp lv ke tl fsh wi ri fm lm lw re7 la7 su7 le7 re8 la8 su8 le8 re9 la9 su9 le9 zt zp zf zh zr zc zy za zb zs zq zw ze zn zm zl zk zd fT fL fM f41 f42 f43 f51 f52 f53 fB fH1 fH2 fK1 fK2 fG1 fG2 f1 f2 f3 fR1 fR2 fR3 fR4 fR5 fR6 fq fp fv fQ1 fQ2 fQ3 fQ4 fw fW1 fW2 fW3 fW4 fW5 fW6 fW7 eT eS eX eL eB eD e1 e2 eR ec1 ec2 ec3 eH eY eE eW eO er1 er2 er3 er4 eZ fJ) H) (hD : va_D A (WLD cI cS cJ oX nT aT nL aL nM aM oC o4 a41 a42 a43 o5 a51 a52 a53 oP nB aB oH h1 h2 oK k1 k2 oG g1 g2 oR n1 a1 n2 a2 n3 a3 r1 r2 r3 r4 r5 r6 oQ oE nq aq np ap nv av q1 q2 q3 q4 oW nw aw o7 o8 o9 w1 w2 w3 w4 w5 w6 w7 oM mT mS mX mL mB mD m1 m2 mR x1 x2 x3 mH mY mE mW mO y1 y2 y3 y4 mZ oJ fa lT lL lM l4 l5 ft lB lH lK gn lG lR l1 l2 l3 pr reE laE suE leE lq lp lv ke tl fsh wi ri fm lm lw re7 la7 su7 le7 re8 la8 su8 le8 re9 la9 su9 le9 zt zp zf zh zr zc zy za zb zs zq zw ze zn zm zl zk zd fT fL fM f41 f42 f43 f51 f52 f53 fB fH1 fH2 fK1 fK2 fG1 fG2 f1 f2 f3 fR1 fR2 fR3 fR4 fR5 fR6 fq fp fv fQ1 fQ2 fQ3 fQ4 fw fW1 fW2 fW3 fW4 fW5 fW6 fW7 eT eS eX eL eB eD e1 e2 eR ec1 ec2 ec3 eH eY eE eW eO er1 er2 er3 er4 eZ fJ)) (hS : va_S A s.heap H locs) (hl : lv_has ls 7 [(0, .ref b), (1, .ref oX), (2, .ref oM), (3, .ref oJ), (4, .int i)]) (kk : KK p l e s m below meth c dC dI cI cS cJ A b oX nT aT nL aL nM aM oC o4 a41 a42 a43 o5 a51 a52 a53 oP nB aB oH h1 h2 oK k1 k2 oG g1 g2 oR n1 a1 n2 a2 n3 a3 r1 r2 r3 r4 r5 r6 oQ oE nq aq np ap nv av q1 q2 q3 q4 oW nw aw o7 o8 o9 w1 w2 w3 w4 w5 w6 w7 oM mT mS mX mL mB mD m1 m2 mR x1 x2 x3 mH mY mE mW mO y1 y2 y3 y4 mZ oJ i nc) : W p l e room_1 s m #[Value.ref b] below meth c H locs (90 + nc) (172225 + 6 * nc) (lw_Z below #[Value.ref b] s) (F0 m 300 ls []) := by
  refine And.elim (fun hx hBC_0 => ?_) C0
  refine And.elim (fun hb hBC_1 => ?_) hBC_0
  refine And.elim (fun hr hBC_2 => ?_) hBC_1
  refine And.elim (fun hml hBC_3 => ?_) hBC_2
  refine And.elim (fun hown hBC_4 => ?_) hBC_3
  refine And.elim (fun hts0 hBC_5 => ?_) hBC_4
  refine And.elim (fun hX hBC_6 => ?_) hBC_5
  refine And.elim (fun hbl hBC_7 => ?_) hBC_6
  refine And.elim (fun hlocks hBC_8 => ?_) hBC_7
  have hgv := hBC_8
  clear hBC_0 hBC_1 hBC_2 hBC_3 hBC_4 hBC_5 hBC_6 hBC_7 hBC_8
  refine And.elim (fun g_lT hBI_0 => ?_) hI
  refine And.elim (fun g_lL hBI_1 => ?_) hBI_0
  refine And.elim (fun g_lM hBI_2 => ?_) hBI_1
  refine And.elim (fun g_lB hBI_3 => ?_) hBI_2
  refine And.elim (fun g_lH hBI_4 => ?_) hBI_3
  refine And.elim (fun g_lK hBI_5 => ?_) hBI_4
  refine And.elim (fun g_gn hBI_6 => ?_) hBI_5
  refine And.elim (fun g_lG hBI_7 => ?_) hBI_6
  refine And.elim (fun g_lR hBI_8 => ?_) hBI_7
  refine And.elim (fun g_l1 hBI_9 => ?_) hBI_8
  refine And.elim (fun g_l2 hBI_10 => ?_) hBI_9
  refine And.elim (fun g_l3 hBI_11 => ?_) hBI_10
  refine And.elim (fun g_lq hBI_12 => ?_) hBI_11
  refine And.elim (fun g_lp hBI_13 => ?_) hBI_12
  refine And.elim (fun g_lv hBI_14 => ?_) hBI_13
  refine And.elim (fun g_ke hBI_15 => ?_) hBI_14
  refine And.elim (fun g_fsh hBI_16 => ?_) hBI_15
  refine And.elim (fun g_fm hBI_17 => ?_) hBI_16
  refine And.elim (fun g_lm hBI_18 => ?_) hBI_17
  refine And.elim (fun g_lw hBI_19 => ?_) hBI_18
  refine And.elim (fun g_zt hBI_20 => ?_) hBI_19
  refine And.elim (fun g_zp hBI_21 => ?_) hBI_20
  refine And.elim (fun g_zf hBI_22 => ?_) hBI_21
  refine And.elim (fun g_zh hBI_23 => ?_) hBI_22
  refine And.elim (fun g_zr hBI_24 => ?_) hBI_23
  refine And.elim (fun g_zc hBI_25 => ?_) hBI_24
  refine And.elim (fun g_zy hBI_26 => ?_) hBI_25
  refine And.elim (fun g_za hBI_27 => ?_) hBI_26
  refine And.elim (fun g_zb hBI_28 => ?_) hBI_27
  refine And.elim (fun g_zs hBI_29 => ?_) hBI_28
  refine And.elim (fun g_zq hBI_30 => ?_) hBI_29
  refine And.elim (fun g_zn hBI_31 => ?_) hBI_30
  refine And.elim (fun g_zm hBI_32 => ?_) hBI_31
  refine And.elim (fun g_zk hBI_33 => ?_) hBI_32
  refine And.elim (fun g_fG2 hBI_34 => ?_) hBI_33
  refine And.elim (fun g_eS hBI_35 => ?_) hBI_34
  refine And.elim (fun g_eX hBI_36 => ?_) hBI_35
  refine And.elim (fun g_eL hBI_37 => ?_) hBI_36
  refine And.elim (fun g_eB hBI_38 => ?_) hBI_37
  refine And.elim (fun g_e1 hBI_39 => ?_) hBI_38
  refine And.elim (fun g_e2 hBI_40 => ?_) hBI_39
  refine And.elim (fun g_eY hBI_41 => ?_) hBI_40
  refine And.elim (fun g_eE hBI_42 => ?_) hBI_41
  refine And.elim (fun g_eW hBI_43 => ?_) hBI_42
  refine And.elim (fun g_eO hBI_44 => ?_) hBI_43
  refine And.elim (fun g_eZ hBI_45 => ?_) hBI_44
  refine And.elim (fun hzn hBI_46 => ?_) hBI_45
  refine And.elim (fun hrel hBI_47 => ?_) hBI_46
  refine And.elim (fun hrc hBI_48 => ?_) hBI_47
  refine And.elim (fun hr4 hBI_49 => ?_) hBI_48
  refine And.elim (fun hr5 hBI_50 => ?_) hBI_49
  refine And.elim (fun hb4 hBI_51 => ?_) hBI_50
  refine And.elim (fun hb5 hBI_52 => ?_) hBI_51
  refine And.elim (fun hlz hBI_53 => ?_) hBI_52
  refine And.elim (fun hH hBI_54 => ?_) hBI_53
  refine And.elim (fun hHe hBI_55 => ?_) hBI_54
  refine And.elim (fun hKz hBI_56 => ?_) hBI_55
  refine And.elim (fun hT hBI_57 => ?_) hBI_56
  refine And.elim (fun ho hBI_58 => ?_) hBI_57
  refine And.elim (fun hal hBI_59 => ?_) hBI_58
  refine And.elim (fun hCV hBI_60 => ?_) hBI_59
  refine And.elim (fun hVk hBI_61 => ?_) hBI_60
  refine And.elim (fun hVr hBI_62 => ?_) hBI_61
  refine And.elim (fun hTX hBI_63 => ?_) hBI_62
  refine And.elim (fun hCH hBI_64 => ?_) hBI_63
  refine And.elim (fun hvc hBI_65 => ?_) hBI_64
  refine And.elim (fun hfr hBI_66 => ?_) hBI_65
  refine And.elim (fun hfx hBI_67 => ?_) hBI_66
  have hfs := hBI_67
  clear hI hBI_0 hBI_1 hBI_2 hBI_3 hBI_4 hBI_5 hBI_6 hBI_7 hBI_8 hBI_9 hBI_10 hBI_11 hBI_12 hBI_13 hBI_14 hBI_15 hBI_16 hBI_17 hBI_18 hBI_19 hBI_20 hBI_21 hBI_22 hBI_23 hBI_24 hBI_25 hBI_26 hBI_27 hBI_28 hBI_29 hBI_30 hBI_31 hBI_32 hBI_33 hBI_34 hBI_35 hBI_36 hBI_37 hBI_38 hBI_39 hBI_40 hBI_41 hBI_42 hBI_43 hBI_44 hBI_45 hBI_46 hBI_47 hBI_48 hBI_49 hBI_50 hBI_51 hBI_52 hBI_53 hBI_54 hBI_55 hBI_56 hBI_57 hBI_58 hBI_59 hBI_60 hBI_61 hBI_62 hBI_63 hBI_64 hBI_65 hBI_66 hBI_67
  have hK : va_K (dC, dI) vwCl [(cI, .int), (cS, .short)] s := hK3.sub [0, 1] rfl
  have hown : s.vm.findClass RL = some m.cls := hown
  have hts := hts0
  have hcf := k_cf hx hb hml hown hts
  have hi9 : 0 ≤ i.toInt ∧ i.toInt ≤ 3066 := by omega
  have hzs : zs.toInt ≤ 1000000 := by omega
  have hA : ∀ q : Nat, s.heap.size ≤ q → A q := fun q h => by rw [hAd]; exact h
  have hbA : ¬ A b := by rw [hAd]; exact Nat.not_le.mpr hbl
  have hP : va_P (dC, dI) vwCl [(oX, .inr (11, [.ref nT, .ref nL, .ref nM, .ref oC, .ref oP, .ref oH, .ref oK, .ref oG, .ref oR, .ref oQ, .ref oW, .int fa])), (nT, .inr (5, [.ref aT, .int lT])), (aT, .inl (cI, 900, .inl fT)), (nL, .inr (5, [.ref aL, .int lL])), (aL, .inl (cI, 300, .inl fL)), (nM, .inr (5, [.ref aM, .int lM])), (aM, .inl (cI, 300, .inl fM)), (oC, .inr (2, [.ref o4, .ref o5])), (o4, .inr (10, [.ref a41, .ref a42, .ref a43, .int l4])), (a41, .inl (cI, 256, .inl f41)), (a42, .inl (cI, 512, .inl f42)), (a43, .inl (cI, 512, .inl f43)), (o5, .inr (10, [.ref a51, .ref a52, .ref a53, .int l5])), (a51, .inl (cI, 256, .inl f51)), (a52, .inl (cI, 512, .inl f52)), (a53, .inl (cI, 512, .inl f53)), (oP, .inr (7, [.ref oC, .ref nB, .int ft])), (nB, .inr (5, [.ref aB, .int lB])), (aB, .inl (cI, 2400, .inl fB)), (oH, .inr (4, [.ref oP, .ref h1, .ref h2, .int lH])), (h1, .inl (cI, 6, .inl fH1)), (h2, .inl (cI, 6, .inl fH2)), (oK, .inr (3, [.ref k1, .ref k2, .int lK])), (k1, .inl (cI, 1024, .inl fK1)), (k2, .inl (cI, 1024, .inl fK2)), (oG, .inr (0, [.ref g1, .ref g2, .int gn, .int lG])), (g1, .inl (cI, 6000, .inl fG1)), (g2, .inl (cI, 20, .inl fG2)), (oR, .inr (9, [.ref oH, .ref oK, .ref n1, .ref n2, .ref n3, .ref r1, .ref r2, .ref r3, .ref r4, .ref r5, .ref r6, .int lR])), (n1, .inr (5, [.ref a1, .int l1])), (a1, .inl (cI, 300, .inl f1)), (n2, .inr (5, [.ref a2, .int l2])), (a2, .inl (cI, 300, .inl f2)), (n3, .inr (5, [.ref a3, .int l3])), (a3, .inl (cI, 300, .inl f3)), (r1, .inl (cI, 258, .inl fR1)), (r2, .inl (cI, 258, .inl fR2)), (r3, .inl (cI, 774, .inl fR3)), (r4, .inl (cI, 258, .inl fR4)), (r5, .inl (cI, 258, .inl fR5)), (r6, .inl (cI, 774, .inl fR6)), (oQ, .inr (6, [.ref oC, .ref oH, .ref oK, .ref oE, .ref nq, .ref np, .ref nv, .ref q1, .ref q2, .ref q3, .ref q4, .int pr])), (oE, .inr (8, [.ref oC, .ref oK, .int reE, .int laE, .int suE, .int leE])), (nq, .inr (5, [.ref aq, .int lq])), (aq, .inl (cI, 480, .inl fq)), (np, .inr (5, [.ref ap, .int lp])), (ap, .inl (cI, 300, .inl fp)), (nv, .inr (5, [.ref av, .int lv])), (av, .inl (cI, 300, .inl fv)), (q1, .inl (cI, 61, .inl fQ1)), (q2, .inl (cI, 61, .inl fQ2)), (q3, .inl (cI, 61, .inl fQ3)), (q4, .inl (cI, 61, .inl fQ4)), (oW, .inr (1, [.ref oC, .ref oK, .ref nw, .ref w1, .ref w2, .ref w3, .ref o7, .ref o8, .ref o9, .ref w4, .ref w5, .ref w6, .ref w7, .int ke, .int tl, .int fsh, .int wi, .int ri, .int fm, .int lm])), (nw, .inr (5, [.ref aw, .int lw])), (aw, .inl (cI, 800, .inl fw)), (o7, .inr (8, [.ref oC, .ref oK, .int re7, .int la7, .int su7, .int le7])), (o8, .inr (8, [.ref oC, .ref oK, .int re8, .int la8, .int su8, .int le8])), (o9, .inr (8, [.ref oC, .ref oK, .int re9, .int la9, .int su9, .int le9])), (w1, .inl (cI, 801, .inl fW1)), (w2, .inl (cI, 801, .inl fW2)), (w3, .inl (cI, 801, .inl fW3)), (w4, .inl (cI, 200, .inl fW4)), (w5, .inl (cI, 200, .inl fW5)), (w6, .inl (cI, 200, .inl fW6)), (w7, .inl (cI, 200, .inl fW7)), (oM, .inr (12, [.ref mT, .int zt, .ref mS, .ref mX, .int zp, .int zf, .ref mL, .ref mB, .ref mD, .ref m1, .ref m2, .int zh, .ref mR, .int zr, .ref x1, .ref x2, .ref x3, .int zc, .ref mH, .int zy, .int za, .int zb, .int zs, .int zq, .int zw, .int ze, .ref mY, .int zn, .ref mE, .int zm, .int zl, .ref mW, .int zk, .ref mO, .int zd, .ref y1, .ref y2, .ref y3, .ref y4, .ref mZ])), (mT, .inl (cI, 900, .inl eT)), (mS, .inl (cI, 21, .inl eS)), (mX, .inl (cI, 6300, .inl eX)), (mL, .inl (cI, 512, .inl eL)), (mB, .inl (cS, 131072, .inl eB)), (mD, .inl (cI, 2, .inl eD)), (m1, .inl (cI, 6, .inl e1)), (m2, .inl (cI, 6, .inl e2)), (mR, .inl (cI, 1548, .inl eR)), (x1, .inl (cI, 300, .inl ec1)), (x2, .inl (cI, 300, .inl ec2)), (x3, .inl (cI, 300, .inl ec3)), (mH, .inl (cI, 800, .inl eH)), (mY, .inl (cI, 2600, .inl eY)), (mE, .inl (cI, 2600, .inl eE)), (mW, .inl (cI, 300, .inl eW)), (mO, .inl (cI, 300, .inl eO)), (y1, .inl (cI, 61, .inl er1)), (y2, .inl (cI, 61, .inl er2)), (y3, .inl (cI, 61, .inl er3)), (y4, .inl (cI, 61, .inl er4)), (mZ, .inl (cI, 600, .inl eZ)), (oJ, .inl (cJ, 1, .inr (.inl fJ)))] H := hP
  have hD : va_D A [(oX, .inr (11, [.ref nT, .ref nL, .ref nM, .ref oC, .ref oP, .ref oH, .ref oK, .ref oG, .ref oR, .ref oQ, .ref oW, .int fa])), (nT, .inr (5, [.ref aT, .int lT])), (aT, .inl (cI, 900, .inl fT)), (nL, .inr (5, [.ref aL, .int lL])), (aL, .inl (cI, 300, .inl fL)), (nM, .inr (5, [.ref aM, .int lM])), (aM, .inl (cI, 300, .inl fM)), (oC, .inr (2, [.ref o4, .ref o5])), (o4, .inr (10, [.ref a41, .ref a42, .ref a43, .int l4])), (a41, .inl (cI, 256, .inl f41)), (a42, .inl (cI, 512, .inl f42)), (a43, .inl (cI, 512, .inl f43)), (o5, .inr (10, [.ref a51, .ref a52, .ref a53, .int l5])), (a51, .inl (cI, 256, .inl f51)), (a52, .inl (cI, 512, .inl f52)), (a53, .inl (cI, 512, .inl f53)), (oP, .inr (7, [.ref oC, .ref nB, .int ft])), (nB, .inr (5, [.ref aB, .int lB])), (aB, .inl (cI, 2400, .inl fB)), (oH, .inr (4, [.ref oP, .ref h1, .ref h2, .int lH])), (h1, .inl (cI, 6, .inl fH1)), (h2, .inl (cI, 6, .inl fH2)), (oK, .inr (3, [.ref k1, .ref k2, .int lK])), (k1, .inl (cI, 1024, .inl fK1)), (k2, .inl (cI, 1024, .inl fK2)), (oG, .inr (0, [.ref g1, .ref g2, .int gn, .int lG])), (g1, .inl (cI, 6000, .inl fG1)), (g2, .inl (cI, 20, .inl fG2)), (oR, .inr (9, [.ref oH, .ref oK, .ref n1, .ref n2, .ref n3, .ref r1, .ref r2, .ref r3, .ref r4, .ref r5, .ref r6, .int lR])), (n1, .inr (5, [.ref a1, .int l1])), (a1, .inl (cI, 300, .inl f1)), (n2, .inr (5, [.ref a2, .int l2])), (a2, .inl (cI, 300, .inl f2)), (n3, .inr (5, [.ref a3, .int l3])), (a3, .inl (cI, 300, .inl f3)), (r1, .inl (cI, 258, .inl fR1)), (r2, .inl (cI, 258, .inl fR2)), (r3, .inl (cI, 774, .inl fR3)), (r4, .inl (cI, 258, .inl fR4)), (r5, .inl (cI, 258, .inl fR5)), (r6, .inl (cI, 774, .inl fR6)), (oQ, .inr (6, [.ref oC, .ref oH, .ref oK, .ref oE, .ref nq, .ref np, .ref nv, .ref q1, .ref q2, .ref q3, .ref q4, .int pr])), (oE, .inr (8, [.ref oC, .ref oK, .int reE, .int laE, .int suE, .int leE])), (nq, .inr (5, [.ref aq, .int lq])), (aq, .inl (cI, 480, .inl fq)), (np, .inr (5, [.ref ap, .int lp])), (ap, .inl (cI, 300, .inl fp)), (nv, .inr (5, [.ref av, .int lv])), (av, .inl (cI, 300, .inl fv)), (q1, .inl (cI, 61, .inl fQ1)), (q2, .inl (cI, 61, .inl fQ2)), (q3, .inl (cI, 61, .inl fQ3)), (q4, .inl (cI, 61, .inl fQ4)), (oW, .inr (1, [.ref oC, .ref oK, .ref nw, .ref w1, .ref w2, .ref w3, .ref o7, .ref o8, .ref o9, .ref w4, .ref w5, .ref w6, .ref w7, .int ke, .int tl, .int fsh, .int wi, .int ri, .int fm, .int lm])), (nw, .inr (5, [.ref aw, .int lw])), (aw, .inl (cI, 800, .inl fw)), (o7, .inr (8, [.ref oC, .ref oK, .int re7, .int la7, .int su7, .int le7])), (o8, .inr (8, [.ref oC, .ref oK, .int re8, .int la8, .int su8, .int le8])), (o9, .inr (8, [.ref oC, .ref oK, .int re9, .int la9, .int su9, .int le9])), (w1, .inl (cI, 801, .inl fW1)), (w2, .inl (cI, 801, .inl fW2)), (w3, .inl (cI, 801, .inl fW3)), (w4, .inl (cI, 200, .inl fW4)), (w5, .inl (cI, 200, .inl fW5)), (w6, .inl (cI, 200, .inl fW6)), (w7, .inl (cI, 200, .inl fW7)), (oM, .inr (12, [.ref mT, .int zt, .ref mS, .ref mX, .int zp, .int zf, .ref mL, .ref mB, .ref mD, .ref m1, .ref m2, .int zh, .ref mR, .int zr, .ref x1, .ref x2, .ref x3, .int zc, .ref mH, .int zy, .int za, .int zb, .int zs, .int zq, .int zw, .int ze, .ref mY, .int zn, .ref mE, .int zm, .int zl, .ref mW, .int zk, .ref mO, .int zd, .ref y1, .ref y2, .ref y3, .ref y4, .ref mZ])), (mT, .inl (cI, 900, .inl eT)), (mS, .inl (cI, 21, .inl eS)), (mX, .inl (cI, 6300, .inl eX)), (mL, .inl (cI, 512, .inl eL)), (mB, .inl (cS, 131072, .inl eB)), (mD, .inl (cI, 2, .inl eD)), (m1, .inl (cI, 6, .inl e1)), (m2, .inl (cI, 6, .inl e2)), (mR, .inl (cI, 1548, .inl eR)), (x1, .inl (cI, 300, .inl ec1)), (x2, .inl (cI, 300, .inl ec2)), (x3, .inl (cI, 300, .inl ec3)), (mH, .inl (cI, 800, .inl eH)), (mY, .inl (cI, 2600, .inl eY)), (mE, .inl (cI, 2600, .inl eE)), (mW, .inl (cI, 300, .inl eW)), (mO, .inl (cI, 300, .inl eO)), (y1, .inl (cI, 61, .inl er1)), (y2, .inl (cI, 61, .inl er2)), (y3, .inl (cI, 61, .inl er3)), (y4, .inl (cI, 61, .inl er4)), (mZ, .inl (cI, 600, .inl eZ)), (oJ, .inl (cJ, 1, .inr (.inl fJ)))] := hD
  have hN35 : va_Nw (.methodLinkNest RX10 35 yX11_isLetter "TextMender") s := va_Nw.of rfl (hts0 _ q_3_32)
  replace g_lT := hid g_lT
  replace g_lM := hid g_lM
  replace g_lB := hid g_lB
  replace g_lR := hid g_lR
  replace g_l1 := hid g_l1
  replace g_l2 := hid g_l2
  replace g_l3 := hid g_l3
  replace g_lq := hid g_lq
  replace g_lp := hid g_lp
  replace g_lv := hid g_lv
  replace g_fm := hid g_fm
  replace g_lm := hid g_lm
  replace g_lw := hid g_lw
  replace g_zt := hid g_zt
  replace g_zr := hid g_zr
  replace g_zn := hid g_zn
  replace g_zm := hid g_zm
  replace g_zk := hid g_zk
  refine lv_aload_n hx hb dL_law_300 rfl (lv_at hl 1 rfl) ?_
  refine lv_aload_n hx hb dL_law_301 rfl (lv_at hl 0 rfl) ?_
  refine lv_iload hx hb dL_law_302 (lv_at hl 4 rfl) ?_
  refine lv_iconst (v := 1) hx hb dL_law_304 (by decide) ?_
  refine lv_iadd hx hb dL_law_305 ?_
  refine lv_topi (fun x_1 ex_1 => ?_)
  have tx_1 : x_1.toInt = i.toInt + 1 := v_addR (l2 := 1) (h2 := 1) ex_1 hi9 (by decide) (by decide) (by decide)
  refine va_sld hx hb hX hbl hbA hS (v_in (v_sld5 tx_1 hi (by decide))) dL_law_306 ?_
  refine lv_topi (fun x_2 ex_2 => ?_)
  refine lv_aload_n hx hb dL_law_307 rfl (lv_at hl 0 rfl) ?_
  refine lv_iload hx hb dL_law_308 (lv_at hl 4 rfl) ?_
  refine lv_iconst (v := 2) hx hb dL_law_310 (by decide) ?_
  refine lv_iadd hx hb dL_law_311 ?_
  refine lv_topi (fun x_3 ex_3 => ?_)
  have tx_3 : x_3.toInt = i.toInt + 2 := v_addR (l2 := 2) (h2 := 2) ex_3 hi9 (by decide) (by decide) (by decide)
  refine va_sld hx hb hX hbl hbA hS (v_in (v_sld5 tx_3 hi (by decide))) dL_law_312 ?_
  refine lv_topi (fun x_4 ex_4 => ?_)
  refine lv_aload_n hx hb dL_law_313 rfl (lv_at hl 0 rfl) ?_
  refine lv_iload hx hb dL_law_314 (lv_at hl 4 rfl) ?_
  refine lv_iconst (v := 3) hx hb dL_law_316 (by decide) ?_
  refine lv_iadd hx hb dL_law_317 ?_
  refine lv_topi (fun x_5 ex_5 => ?_)
  have tx_5 : x_5.toInt = i.toInt + 3 := v_addR (l2 := 3) (h2 := 3) ex_5 hi9 (by decide) (by decide) (by decide)
  refine va_sld hx hb hX hbl hbA hS (v_in (v_sld5 tx_5 hi (by decide))) dL_law_318 ?_
  refine lv_topi (fun x_6 ex_6 => ?_)
  refine lv_aload_n hx hb dL_law_319 rfl (lv_at hl 0 rfl) ?_
  refine lv_iload hx hb dL_law_320 (lv_at hl 4 rfl) ?_
  refine lv_iconst (v := 4) hx hb dL_law_322 (by decide) ?_
  refine lv_iadd hx hb dL_law_323 ?_
  refine lv_topi (fun x_7 ex_7 => ?_)
  have tx_7 : x_7.toInt = i.toInt + 4 := v_addR (l2 := 4) (h2 := 4) ex_7 hi9 (by decide) (by decide) (by decide)
  refine va_sld hx hb hX hbl hbA hS (v_in (v_sld5 tx_7 hi (by decide))) dL_law_324 ?_
  refine lv_topi (fun x_8 ex_8 => ?_)
  refine lv_aload_n hx hb dL_law_325 rfl (lv_at hl 0 rfl) ?_
  refine lv_iload hx hb dL_law_326 (lv_at hl 4 rfl) ?_
  refine lv_iconst (v := 5) hx hb dL_law_328 (by decide) ?_
  refine lv_iadd hx hb dL_law_329 ?_
  refine lv_topi (fun x_9 ex_9 => ?_)
  have tx_9 : x_9.toInt = i.toInt + 5 := v_addR (l2 := 5) (h2 := 5) ex_9 hi9 (by decide) (by decide) (by decide)
  refine va_sld hx hb hX hbl hbA hS (v_in (v_sld5 tx_9 hi (by decide))) dL_law_330 ?_
  refine lv_topi (fun x_10 ex_10 => ?_)
  by_cases cs_11 : x_2.toInt = 4
  · refine kV_i (rest := []) (q0 := 0) (ci := 11) hcf (f_span_4 l dC dI cI cS H.size oX nT nL nM oC oP oH oK oG oR oQ oW o4 o5 a41 a42 a43 nw w1 w2 w3 o7 o8 o9 w4 w5 w6 w7 fa l4 f41 f42 f43 ke tl fsh wi ri fm lm x_2 x_4 x_6 x_8 x_10 (g_ke) (g_fsh) (g_fm) (g_lm) (by omega) (hr4.1) (hr4.2.1)) kc_X11_span gL_law_X11_span rfl rfl rfl ⟨Nat.le_of_ble_eq_true rfl, Nat.le_of_ble_eq_true rfl⟩ (kX_1 hN35) hK hP hD hS hA (posT mk_8 0) (posF mk_8 0) (kC_of mk_8 rfl rfl) (by decide +kernel) rfl rfl rfl hl rfl (Nat.le_of_ble_eq_true rfl) dL_law_331 ⟨kfit1 hn (Nat.le_of_ble_eq_true rfl), ksix1 hn (Nat.le_of_ble_eq_true rfl)⟩ (fun r_12 H locs hB hJ hSn => ?_)
    refine Exists.elim hB (fun fa_12 hB12_0 => ?_)
    refine Exists.elim hB12_0 (fun fsh_12 hB12_1 => ?_)
    refine Exists.elim hB12_1 (fun l4_12 hB12_2 => ?_)
    refine Exists.elim hB12_2 (fun f41_12 hB12_3 => ?_)
    refine Exists.elim hB12_3 (fun f42_12 hB12_4 => ?_)
    refine Exists.elim hB12_4 (fun f43_12 hB12_5 => ?_)
    refine And.elim (fun hPD9 hB12_6 => ?_) hB12_5
    refine And.elim (fun hf12_0 hB12_7 => ?_) hB12_6
    refine And.elim (fun hf12_1 hB12_8 => ?_) hB12_7
    have hf12_2 := hB12_8
    clear hB hB12_0 hB12_1 hB12_2 hB12_3 hB12_4 hB12_5 hB12_6 hB12_7 hB12_8
    obtain ⟨hPn, hDn⟩ := kJi (m := mk_8) hJ rfl hPD9.1 hPD9.2 (wn := [(oX, .inr (11, [.ref nT, .ref nL, .ref nM, .ref oC, .ref oP, .ref oH, .ref oK, .ref oG, .ref oR, .ref oQ, .ref oW, .int fa_12])), (nT, .inr (5, [.ref aT, .int lT])), (aT, .inl (cI, 900, .inl fT)), (nL, .inr (5, [.ref aL, .int lL])), (aL, .inl (cI, 300, .inl fL)), (nM, .inr (5, [.ref aM, .int lM])), (aM, .inl (cI, 300, .inl fM)), (oC, .inr (2, [.ref o4, .ref o5])), (o4, .inr (10, [.ref a41, .ref a42, .ref a43, .int l4_12])), (a41, .inl (cI, 256, .inl f41_12)), (a42, .inl (cI, 512, .inl f42_12)), (a43, .inl (cI, 512, .inl f43_12)), (o5, .inr (10, [.ref a51, .ref a52, .ref a53, .int l5])), (a51, .inl (cI, 256, .inl f51)), (a52, .inl (cI, 512, .inl f52)), (a53, .inl (cI, 512, .inl f53)), (oP, .inr (7, [.ref oC, .ref nB, .int ft])), (nB, .inr (5, [.ref aB, .int lB])), (aB, .inl (cI, 2400, .inl fB)), (oH, .inr (4, [.ref oP, .ref h1, .ref h2, .int lH])), (h1, .inl (cI, 6, .inl fH1)), (h2, .inl (cI, 6, .inl fH2)), (oK, .inr (3, [.ref k1, .ref k2, .int lK])), (k1, .inl (cI, 1024, .inl fK1)), (k2, .inl (cI, 1024, .inl fK2)), (oG, .inr (0, [.ref g1, .ref g2, .int gn, .int lG])), (g1, .inl (cI, 6000, .inl fG1)), (g2, .inl (cI, 20, .inl fG2)), (oR, .inr (9, [.ref oH, .ref oK, .ref n1, .ref n2, .ref n3, .ref r1, .ref r2, .ref r3, .ref r4, .ref r5, .ref r6, .int lR])), (n1, .inr (5, [.ref a1, .int l1])), (a1, .inl (cI, 300, .inl f1)), (n2, .inr (5, [.ref a2, .int l2])), (a2, .inl (cI, 300, .inl f2)), (n3, .inr (5, [.ref a3, .int l3])), (a3, .inl (cI, 300, .inl f3)), (r1, .inl (cI, 258, .inl fR1)), (r2, .inl (cI, 258, .inl fR2)), (r3, .inl (cI, 774, .inl fR3)), (r4, .inl (cI, 258, .inl fR4)), (r5, .inl (cI, 258, .inl fR5)), (r6, .inl (cI, 774, .inl fR6)), (oQ, .inr (6, [.ref oC, .ref oH, .ref oK, .ref oE, .ref nq, .ref np, .ref nv, .ref q1, .ref q2, .ref q3, .ref q4, .int pr])), (oE, .inr (8, [.ref oC, .ref oK, .int reE, .int laE, .int suE, .int leE])), (nq, .inr (5, [.ref aq, .int lq])), (aq, .inl (cI, 480, .inl fq)), (np, .inr (5, [.ref ap, .int lp])), (ap, .inl (cI, 300, .inl fp)), (nv, .inr (5, [.ref av, .int lv])), (av, .inl (cI, 300, .inl fv)), (q1, .inl (cI, 61, .inl fQ1)), (q2, .inl (cI, 61, .inl fQ2)), (q3, .inl (cI, 61, .inl fQ3)), (q4, .inl (cI, 61, .inl fQ4)), (oW, .inr (1, [.ref oC, .ref oK, .ref nw, .ref w1, .ref w2, .ref w3, .ref o7, .ref o8, .ref o9, .ref w4, .ref w5, .ref w6, .ref w7, .int ke, .int tl, .int fsh_12, .int wi, .int ri, .int fm, .int lm])), (nw, .inr (5, [.ref aw, .int lw])), (aw, .inl (cI, 800, .inl fw)), (o7, .inr (8, [.ref oC, .ref oK, .int re7, .int la7, .int su7, .int le7])), (o8, .inr (8, [.ref oC, .ref oK, .int re8, .int la8, .int su8, .int le8])), (o9, .inr (8, [.ref oC, .ref oK, .int re9, .int la9, .int su9, .int le9])), (w1, .inl (cI, 801, .inl fW1)), (w2, .inl (cI, 801, .inl fW2)), (w3, .inl (cI, 801, .inl fW3)), (w4, .inl (cI, 200, .inl fW4)), (w5, .inl (cI, 200, .inl fW5)), (w6, .inl (cI, 200, .inl fW6)), (w7, .inl (cI, 200, .inl fW7)), (oM, .inr (12, [.ref mT, .int zt, .ref mS, .ref mX, .int zp, .int zf, .ref mL, .ref mB, .ref mD, .ref m1, .ref m2, .int zh, .ref mR, .int zr, .ref x1, .ref x2, .ref x3, .int zc, .ref mH, .int zy, .int za, .int zb, .int zs, .int zq, .int zw, .int ze, .ref mY, .int zn, .ref mE, .int zm, .int zl, .ref mW, .int zk, .ref mO, .int zd, .ref y1, .ref y2, .ref y3, .ref y4, .ref mZ])), (mT, .inl (cI, 900, .inl eT)), (mS, .inl (cI, 21, .inl eS)), (mX, .inl (cI, 6300, .inl eX)), (mL, .inl (cI, 512, .inl eL)), (mB, .inl (cS, 131072, .inl eB)), (mD, .inl (cI, 2, .inl eD)), (m1, .inl (cI, 6, .inl e1)), (m2, .inl (cI, 6, .inl e2)), (mR, .inl (cI, 1548, .inl eR)), (x1, .inl (cI, 300, .inl ec1)), (x2, .inl (cI, 300, .inl ec2)), (x3, .inl (cI, 300, .inl ec3)), (mH, .inl (cI, 800, .inl eH)), (mY, .inl (cI, 2600, .inl eY)), (mE, .inl (cI, 2600, .inl eE)), (mW, .inl (cI, 300, .inl eW)), (mO, .inl (cI, 300, .inl eO)), (y1, .inl (cI, 61, .inl er1)), (y2, .inl (cI, 61, .inl er2)), (y3, .inl (cI, 61, .inl er3)), (y4, .inl (cI, 61, .inl er4)), (mZ, .inl (cI, 600, .inl eZ)), (oJ, .inl (cJ, 1, .inr (.inl fJ)))]) rfl
    clear hP hD hS hJ hPD9
    have hP := hPn
    have hD := hDn
    have hS := hSn
    clear hPn hDn hSn
    refine lv_pop hx hb dL_law_334 rfl ?_
    refine lv_aload_n hx hb dL_law_335 rfl (lv_at hl 2 rfl) ?_
    refine lv_aload_n hx hb dL_law_336 rfl (lv_at hl 0 rfl) ?_
    refine lv_iload hx hb dL_law_337 (lv_at hl 4 rfl) ?_
    refine lv_iconst (v := 1) hx hb dL_law_339 (by decide) ?_
    refine lv_iadd hx hb dL_law_340 ?_
    refine lv_topi (fun x_13 ex_13 => ?_)
    have tx_13 : x_13.toInt = i.toInt + 1 := v_addR (l2 := 1) (h2 := 1) ex_13 hi9 (by decide) (by decide) (by decide)
    refine va_sld hx hb hX hbl hbA hS (v_in (v_sld5 tx_13 hi (by decide))) dL_law_341 ?_
    refine lv_topi (fun x_14 ex_14 => ?_)
    have es_14 : x_14 = x_2 := by rw [ex_14, ex_2, ex_13, ex_1]
    rw [es_14]
    refine lv_aload_n hx hb dL_law_342 rfl (lv_at hl 0 rfl) ?_
    refine lv_iload hx hb dL_law_343 (lv_at hl 4 rfl) ?_
    refine lv_iconst (v := 2) hx hb dL_law_345 (by decide) ?_
    refine lv_iadd hx hb dL_law_346 ?_
    refine lv_topi (fun x_15 ex_15 => ?_)
    have tx_15 : x_15.toInt = i.toInt + 2 := v_addR (l2 := 2) (h2 := 2) ex_15 hi9 (by decide) (by decide) (by decide)
    refine va_sld hx hb hX hbl hbA hS (v_in (v_sld5 tx_15 hi (by decide))) dL_law_347 ?_
    refine lv_topi (fun x_16 ex_16 => ?_)
    have es_16 : x_16 = x_4 := by rw [ex_16, ex_4, ex_15, ex_3]
    rw [es_16]
    refine lv_aload_n hx hb dL_law_348 rfl (lv_at hl 0 rfl) ?_
    refine lv_iload hx hb dL_law_349 (lv_at hl 4 rfl) ?_
    refine lv_iconst (v := 3) hx hb dL_law_351 (by decide) ?_
    refine lv_iadd hx hb dL_law_352 ?_
    refine lv_topi (fun x_17 ex_17 => ?_)
    have tx_17 : x_17.toInt = i.toInt + 3 := v_addR (l2 := 3) (h2 := 3) ex_17 hi9 (by decide) (by decide) (by decide)
    refine va_sld hx hb hX hbl hbA hS (v_in (v_sld5 tx_17 hi (by decide))) dL_law_353 ?_
    refine lv_topi (fun x_18 ex_18 => ?_)
    have es_18 : x_18 = x_6 := by rw [ex_18, ex_6, ex_17, ex_5]
    rw [es_18]
    refine lv_aload_n hx hb dL_law_354 rfl (lv_at hl 0 rfl) ?_
    refine lv_iload hx hb dL_law_355 (lv_at hl 4 rfl) ?_
    refine lv_iconst (v := 4) hx hb dL_law_357 (by decide) ?_
    refine lv_iadd hx hb dL_law_358 ?_
    refine lv_topi (fun x_19 ex_19 => ?_)
    have tx_19 : x_19.toInt = i.toInt + 4 := v_addR (l2 := 4) (h2 := 4) ex_19 hi9 (by decide) (by decide) (by decide)
    refine va_sld hx hb hX hbl hbA hS (v_in (v_sld5 tx_19 hi (by decide))) dL_law_359 ?_
    refine lv_topi (fun x_20 ex_20 => ?_)
    have es_20 : x_20 = x_8 := by rw [ex_20, ex_8, ex_19, ex_7]
    rw [es_20]
    refine lv_aload_n hx hb dL_law_360 rfl (lv_at hl 0 rfl) ?_
    refine lv_iload hx hb dL_law_361 (lv_at hl 4 rfl) ?_
    refine lv_iconst (v := 5) hx hb dL_law_363 (by decide) ?_
    refine lv_iadd hx hb dL_law_364 ?_
    refine lv_topi (fun x_21 ex_21 => ?_)
    have tx_21 : x_21.toInt = i.toInt + 5 := v_addR (l2 := 5) (h2 := 5) ex_21 hi9 (by decide) (by decide) (by decide)
    refine va_sld hx hb hX hbl hbA hS (v_in (v_sld5 tx_21 hi (by decide))) dL_law_365 ?_
    refine lv_topi (fun x_22 ex_22 => ?_)
    have es_22 : x_22 = x_10 := by rw [ex_22, ex_10, ex_21, ex_9]
    rw [es_22]
    refine kV_i (rest := []) (q0 := 0) (ci := 12) hcf (f_X12_span l dC dI cI cS H.size oM mT mS mX mL mB mD m1 m2 mR x1 x2 x3 mH mY mE mW mO y1 y2 y3 y4 mZ zt zp zf zh zr zc zy za zb zs zq zw ze zn zm zl zk zd eL eB eD x_2 x_4 x_6 x_8 x_10 (g_zt) (g_zp) (g_zf) (g_zh) (g_zr) (g_zc) (g_zy) (g_za) (g_zb) (g_zs) (g_zq) (g_zn) (g_zm) (g_zk) (g_eL) (g_eB) (by omega)) kc_X12_span gL_law_X12_span rfl rfl rfl ⟨Nat.le_of_ble_eq_true rfl, Nat.le_of_ble_eq_true rfl⟩ kX_t hK hP hD hS hA (posT mk_9 0) (posF mk_9 0) (kC_of mk_9 rfl rfl) (by decide +kernel) rfl rfl rfl hl rfl (Nat.le_of_ble_eq_true rfl) dL_law_366 ⟨kfit2 hn (Nat.le_of_ble_eq_true rfl), ksix2 hn (Nat.le_of_ble_eq_true rfl)⟩ (fun r_23 H locs hB hJ hSn => ?_)
    refine Exists.elim hB (fun ze_23 hB23_0 => ?_)
    refine Exists.elim hB23_0 (fun zw_23 hB23_1 => ?_)
    refine Exists.elim hB23_1 (fun eL_23 hB23_2 => ?_)
    refine Exists.elim hB23_2 (fun eB_23 hB23_3 => ?_)
    refine Exists.elim hB23_3 (fun eD_23 hB23_4 => ?_)
    refine Exists.elim hB23_4 (fun zs_23 hB23_5 => ?_)
    refine And.elim (fun hPD9 hB23_6 => ?_) hB23_5
    refine And.elim (fun hf23_0 hB23_7 => ?_) hB23_6
    refine And.elim (fun hf23_1 hB23_8 => ?_) hB23_7
    refine And.elim (fun hf23_2 hB23_9 => ?_) hB23_8
    refine And.elim (fun hf23_3 hB23_10 => ?_) hB23_9
    refine And.elim (fun hf23_4 hB23_11 => ?_) hB23_10
    have hf23_5 := hB23_11
    clear hB hB23_0 hB23_1 hB23_2 hB23_3 hB23_4 hB23_5 hB23_6 hB23_7 hB23_8 hB23_9 hB23_10 hB23_11
    obtain ⟨hPn, hDn⟩ := kJi (m := mk_9) hJ rfl hPD9.1 hPD9.2 (wn := [(oX, .inr (11, [.ref nT, .ref nL, .ref nM, .ref oC, .ref oP, .ref oH, .ref oK, .ref oG, .ref oR, .ref oQ, .ref oW, .int fa_12])), (nT, .inr (5, [.ref aT, .int lT])), (aT, .inl (cI, 900, .inl fT)), (nL, .inr (5, [.ref aL, .int lL])), (aL, .inl (cI, 300, .inl fL)), (nM, .inr (5, [.ref aM, .int lM])), (aM, .inl (cI, 300, .inl fM)), (oC, .inr (2, [.ref o4, .ref o5])), (o4, .inr (10, [.ref a41, .ref a42, .ref a43, .int l4_12])), (a41, .inl (cI, 256, .inl f41_12)), (a42, .inl (cI, 512, .inl f42_12)), (a43, .inl (cI, 512, .inl f43_12)), (o5, .inr (10, [.ref a51, .ref a52, .ref a53, .int l5])), (a51, .inl (cI, 256, .inl f51)), (a52, .inl (cI, 512, .inl f52)), (a53, .inl (cI, 512, .inl f53)), (oP, .inr (7, [.ref oC, .ref nB, .int ft])), (nB, .inr (5, [.ref aB, .int lB])), (aB, .inl (cI, 2400, .inl fB)), (oH, .inr (4, [.ref oP, .ref h1, .ref h2, .int lH])), (h1, .inl (cI, 6, .inl fH1)), (h2, .inl (cI, 6, .inl fH2)), (oK, .inr (3, [.ref k1, .ref k2, .int lK])), (k1, .inl (cI, 1024, .inl fK1)), (k2, .inl (cI, 1024, .inl fK2)), (oG, .inr (0, [.ref g1, .ref g2, .int gn, .int lG])), (g1, .inl (cI, 6000, .inl fG1)), (g2, .inl (cI, 20, .inl fG2)), (oR, .inr (9, [.ref oH, .ref oK, .ref n1, .ref n2, .ref n3, .ref r1, .ref r2, .ref r3, .ref r4, .ref r5, .ref r6, .int lR])), (n1, .inr (5, [.ref a1, .int l1])), (a1, .inl (cI, 300, .inl f1)), (n2, .inr (5, [.ref a2, .int l2])), (a2, .inl (cI, 300, .inl f2)), (n3, .inr (5, [.ref a3, .int l3])), (a3, .inl (cI, 300, .inl f3)), (r1, .inl (cI, 258, .inl fR1)), (r2, .inl (cI, 258, .inl fR2)), (r3, .inl (cI, 774, .inl fR3)), (r4, .inl (cI, 258, .inl fR4)), (r5, .inl (cI, 258, .inl fR5)), (r6, .inl (cI, 774, .inl fR6)), (oQ, .inr (6, [.ref oC, .ref oH, .ref oK, .ref oE, .ref nq, .ref np, .ref nv, .ref q1, .ref q2, .ref q3, .ref q4, .int pr])), (oE, .inr (8, [.ref oC, .ref oK, .int reE, .int laE, .int suE, .int leE])), (nq, .inr (5, [.ref aq, .int lq])), (aq, .inl (cI, 480, .inl fq)), (np, .inr (5, [.ref ap, .int lp])), (ap, .inl (cI, 300, .inl fp)), (nv, .inr (5, [.ref av, .int lv])), (av, .inl (cI, 300, .inl fv)), (q1, .inl (cI, 61, .inl fQ1)), (q2, .inl (cI, 61, .inl fQ2)), (q3, .inl (cI, 61, .inl fQ3)), (q4, .inl (cI, 61, .inl fQ4)), (oW, .inr (1, [.ref oC, .ref oK, .ref nw, .ref w1, .ref w2, .ref w3, .ref o7, .ref o8, .ref o9, .ref w4, .ref w5, .ref w6, .ref w7, .int ke, .int tl, .int fsh_12, .int wi, .int ri, .int fm, .int lm])), (nw, .inr (5, [.ref aw, .int lw])), (aw, .inl (cI, 800, .inl fw)), (o7, .inr (8, [.ref oC, .ref oK, .int re7, .int la7, .int su7, .int le7])), (o8, .inr (8, [.ref oC, .ref oK, .int re8, .int la8, .int su8, .int le8])), (o9, .inr (8, [.ref oC, .ref oK, .int re9, .int la9, .int su9, .int le9])), (w1, .inl (cI, 801, .inl fW1)), (w2, .inl (cI, 801, .inl fW2)), (w3, .inl (cI, 801, .inl fW3)), (w4, .inl (cI, 200, .inl fW4)), (w5, .inl (cI, 200, .inl fW5)), (w6, .inl (cI, 200, .inl fW6)), (w7, .inl (cI, 200, .inl fW7)), (oM, .inr (12, [.ref mT, .int zt, .ref mS, .ref mX, .int zp, .int zf, .ref mL, .ref mB, .ref mD, .ref m1, .ref m2, .int zh, .ref mR, .int zr, .ref x1, .ref x2, .ref x3, .int zc, .ref mH, .int zy, .int za, .int zb, .int zs_23, .int zq, .int zw_23, .int ze_23, .ref mY, .int zn, .ref mE, .int zm, .int zl, .ref mW, .int zk, .ref mO, .int zd, .ref y1, .ref y2, .ref y3, .ref y4, .ref mZ])), (mT, .inl (cI, 900, .inl eT)), (mS, .inl (cI, 21, .inl eS)), (mX, .inl (cI, 6300, .inl eX)), (mL, .inl (cI, 512, .inl eL_23)), (mB, .inl (cS, 131072, .inl eB_23)), (mD, .inl (cI, 2, .inl eD_23)), (m1, .inl (cI, 6, .inl e1)), (m2, .inl (cI, 6, .inl e2)), (mR, .inl (cI, 1548, .inl eR)), (x1, .inl (cI, 300, .inl ec1)), (x2, .inl (cI, 300, .inl ec2)), (x3, .inl (cI, 300, .inl ec3)), (mH, .inl (cI, 800, .inl eH)), (mY, .inl (cI, 2600, .inl eY)), (mE, .inl (cI, 2600, .inl eE)), (mW, .inl (cI, 300, .inl eW)), (mO, .inl (cI, 300, .inl eO)), (y1, .inl (cI, 61, .inl er1)), (y2, .inl (cI, 61, .inl er2)), (y3, .inl (cI, 61, .inl er3)), (y4, .inl (cI, 61, .inl er4)), (mZ, .inl (cI, 600, .inl eZ)), (oJ, .inl (cJ, 1, .inr (.inl fJ)))]) rfl
    clear hP hD hS hJ hPD9
    have hP := hPn
    have hD := hDn
    have hS := hSn
    clear hPn hDn hSn
    refine lv_pop hx hb dL_law_369 rfl ?_
    refine lv_goto (tgt := 1022) hx hb dL_law_370 (by decide) ?_
    have hdf : DFr fsh fsh_12 zs zs_23 := d_sp hf12_2 hf23_5 (sp_iff (by decide) (by omega) hr4)
    refine W.widen (k := 90 + (nc + 1)) (n := 172225 + 6 * (nc + 1)) (by omega) (by omega) ?_
    exact kk fa_12 lT lL lM l4_12 l5 ft lB lH lK gn lG lR l1 l2 l3 pr reE laE suE leE lq lp lv ke tl fsh_12 wi ri fm lm lw re7 la7 su7 le7 re8 la8 su8 le8 re9 la9 su9 le9 zt zp zf zh zr zc zy za zb zs_23 zq zw_23 ze_23 zn zm zl zk zd fT fL fM f41_12 f42_12 f43_12 f51 f52 f53 fB fH1 fH2 fK1 fK2 fG1 fG2 f1 f2 f3 fR1 fR2 fR3 fR4 fR5 fR6 fq fp fv fQ1 fQ2 fQ3 fQ4 fw fW1 fW2 fW3 fW4 fW5 fW6 fW7 eT eS eX eL_23 eB_23 eD_23 e1 e2 eR ec1 ec2 ec3 eH eY eE eW eO er1 er2 er3 er4 eZ fJ _ _ _ ⟨g_lT, g_lL, g_lM, g_lB, g_lH, g_lK, g_gn, g_lG, g_lR, g_l1, g_l2, g_l3, g_lq, g_lp, g_lv, g_ke, hf12_0, g_fm, g_lm, g_lw, g_zt, g_zp, g_zf, g_zh, g_zr, g_zc, g_zy, g_za, g_zb, hf23_2, g_zq, g_zn, g_zm, g_zk, g_fG2, g_eS, g_eX, hf23_0, hf23_1, g_e1, g_e2, g_eY, g_eE, g_eW, g_eO, g_eZ, by omega, hrel, hrc, (span_eq (by decide) (by omega) hr4 hf12_1 hf23_4).2, span_other (by decide) (by omega) hr5 hf23_4, LB_span (by decide) hb4 hf23_4, LB_span (by decide) hb5 hf23_4, LZ_span hlz hf23_4, hH, hHe, hKz, hT, ho, hal, hCV, hVk, hVr, hTX, hCH, hvc, fr_d hfr hdf, fx_d hfx hdf, frs_sp hfs hfr hf23_4 hf23_5⟩ hP hD hS (lv_sub hl [0, 1, 2, 3, 4] rfl)
  · skip
    by_cases cs_24 : x_2.toInt = 5
    · refine kV_i (rest := []) (q0 := 0) (ci := 11) hcf (f_span_5 l dC dI cI cS H.size oX nT nL nM oC oP oH oK oG oR oQ oW o4 o5 a51 a52 a53 nw w1 w2 w3 o7 o8 o9 w4 w5 w6 w7 fa l5 f51 f52 f53 ke tl fsh wi ri fm lm x_2 x_4 x_6 x_8 x_10 (g_ke) (g_fsh) (g_fm) (g_lm) (by omega) (hr5.1) (hr5.2.1)) kc_X11_span gL_law_X11_span rfl rfl rfl ⟨Nat.le_of_ble_eq_true rfl, Nat.le_of_ble_eq_true rfl⟩ (kX_1 hN35) hK hP hD hS hA (posT mk_10 0) (posF mk_10 0) (kC_of mk_10 rfl rfl) (by decide +kernel) rfl rfl rfl hl rfl (Nat.le_of_ble_eq_true rfl) dL_law_331 ⟨kfit1 hn (Nat.le_of_ble_eq_true rfl), ksix1 hn (Nat.le_of_ble_eq_true rfl)⟩ (fun r_25 H locs hB hJ hSn => ?_)
      refine Exists.elim hB (fun fa_25 hB25_0 => ?_)
      refine Exists.elim hB25_0 (fun fsh_25 hB25_1 => ?_)
      refine Exists.elim hB25_1 (fun l5_25 hB25_2 => ?_)
      refine Exists.elim hB25_2 (fun f51_25 hB25_3 => ?_)
      refine Exists.elim hB25_3 (fun f52_25 hB25_4 => ?_)
      refine Exists.elim hB25_4 (fun f53_25 hB25_5 => ?_)
      refine And.elim (fun hPD9 hB25_6 => ?_) hB25_5
      refine And.elim (fun hf25_0 hB25_7 => ?_) hB25_6
      refine And.elim (fun hf25_1 hB25_8 => ?_) hB25_7
      have hf25_2 := hB25_8
      clear hB hB25_0 hB25_1 hB25_2 hB25_3 hB25_4 hB25_5 hB25_6 hB25_7 hB25_8
      obtain ⟨hPn, hDn⟩ := kJi (m := mk_10) hJ rfl hPD9.1 hPD9.2 (wn := [(oX, .inr (11, [.ref nT, .ref nL, .ref nM, .ref oC, .ref oP, .ref oH, .ref oK, .ref oG, .ref oR, .ref oQ, .ref oW, .int fa_25])), (nT, .inr (5, [.ref aT, .int lT])), (aT, .inl (cI, 900, .inl fT)), (nL, .inr (5, [.ref aL, .int lL])), (aL, .inl (cI, 300, .inl fL)), (nM, .inr (5, [.ref aM, .int lM])), (aM, .inl (cI, 300, .inl fM)), (oC, .inr (2, [.ref o4, .ref o5])), (o4, .inr (10, [.ref a41, .ref a42, .ref a43, .int l4])), (a41, .inl (cI, 256, .inl f41)), (a42, .inl (cI, 512, .inl f42)), (a43, .inl (cI, 512, .inl f43)), (o5, .inr (10, [.ref a51, .ref a52, .ref a53, .int l5_25])), (a51, .inl (cI, 256, .inl f51_25)), (a52, .inl (cI, 512, .inl f52_25)), (a53, .inl (cI, 512, .inl f53_25)), (oP, .inr (7, [.ref oC, .ref nB, .int ft])), (nB, .inr (5, [.ref aB, .int lB])), (aB, .inl (cI, 2400, .inl fB)), (oH, .inr (4, [.ref oP, .ref h1, .ref h2, .int lH])), (h1, .inl (cI, 6, .inl fH1)), (h2, .inl (cI, 6, .inl fH2)), (oK, .inr (3, [.ref k1, .ref k2, .int lK])), (k1, .inl (cI, 1024, .inl fK1)), (k2, .inl (cI, 1024, .inl fK2)), (oG, .inr (0, [.ref g1, .ref g2, .int gn, .int lG])), (g1, .inl (cI, 6000, .inl fG1)), (g2, .inl (cI, 20, .inl fG2)), (oR, .inr (9, [.ref oH, .ref oK, .ref n1, .ref n2, .ref n3, .ref r1, .ref r2, .ref r3, .ref r4, .ref r5, .ref r6, .int lR])), (n1, .inr (5, [.ref a1, .int l1])), (a1, .inl (cI, 300, .inl f1)), (n2, .inr (5, [.ref a2, .int l2])), (a2, .inl (cI, 300, .inl f2)), (n3, .inr (5, [.ref a3, .int l3])), (a3, .inl (cI, 300, .inl f3)), (r1, .inl (cI, 258, .inl fR1)), (r2, .inl (cI, 258, .inl fR2)), (r3, .inl (cI, 774, .inl fR3)), (r4, .inl (cI, 258, .inl fR4)), (r5, .inl (cI, 258, .inl fR5)), (r6, .inl (cI, 774, .inl fR6)), (oQ, .inr (6, [.ref oC, .ref oH, .ref oK, .ref oE, .ref nq, .ref np, .ref nv, .ref q1, .ref q2, .ref q3, .ref q4, .int pr])), (oE, .inr (8, [.ref oC, .ref oK, .int reE, .int laE, .int suE, .int leE])), (nq, .inr (5, [.ref aq, .int lq])), (aq, .inl (cI, 480, .inl fq)), (np, .inr (5, [.ref ap, .int lp])), (ap, .inl (cI, 300, .inl fp)), (nv, .inr (5, [.ref av, .int lv])), (av, .inl (cI, 300, .inl fv)), (q1, .inl (cI, 61, .inl fQ1)), (q2, .inl (cI, 61, .inl fQ2)), (q3, .inl (cI, 61, .inl fQ3)), (q4, .inl (cI, 61, .inl fQ4)), (oW, .inr (1, [.ref oC, .ref oK, .ref nw, .ref w1, .ref w2, .ref w3, .ref o7, .ref o8, .ref o9, .ref w4, .ref w5, .ref w6, .ref w7, .int ke, .int tl, .int fsh_25, .int wi, .int ri, .int fm, .int lm])), (nw, .inr (5, [.ref aw, .int lw])), (aw, .inl (cI, 800, .inl fw)), (o7, .inr (8, [.ref oC, .ref oK, .int re7, .int la7, .int su7, .int le7])), (o8, .inr (8, [.ref oC, .ref oK, .int re8, .int la8, .int su8, .int le8])), (o9, .inr (8, [.ref oC, .ref oK, .int re9, .int la9, .int su9, .int le9])), (w1, .inl (cI, 801, .inl fW1)), (w2, .inl (cI, 801, .inl fW2)), (w3, .inl (cI, 801, .inl fW3)), (w4, .inl (cI, 200, .inl fW4)), (w5, .inl (cI, 200, .inl fW5)), (w6, .inl (cI, 200, .inl fW6)), (w7, .inl (cI, 200, .inl fW7)), (oM, .inr (12, [.ref mT, .int zt, .ref mS, .ref mX, .int zp, .int zf, .ref mL, .ref mB, .ref mD, .ref m1, .ref m2, .int zh, .ref mR, .int zr, .ref x1, .ref x2, .ref x3, .int zc, .ref mH, .int zy, .int za, .int zb, .int zs, .int zq, .int zw, .int ze, .ref mY, .int zn, .ref mE, .int zm, .int zl, .ref mW, .int zk, .ref mO, .int zd, .ref y1, .ref y2, .ref y3, .ref y4, .ref mZ])), (mT, .inl (cI, 900, .inl eT)), (mS, .inl (cI, 21, .inl eS)), (mX, .inl (cI, 6300, .inl eX)), (mL, .inl (cI, 512, .inl eL)), (mB, .inl (cS, 131072, .inl eB)), (mD, .inl (cI, 2, .inl eD)), (m1, .inl (cI, 6, .inl e1)), (m2, .inl (cI, 6, .inl e2)), (mR, .inl (cI, 1548, .inl eR)), (x1, .inl (cI, 300, .inl ec1)), (x2, .inl (cI, 300, .inl ec2)), (x3, .inl (cI, 300, .inl ec3)), (mH, .inl (cI, 800, .inl eH)), (mY, .inl (cI, 2600, .inl eY)), (mE, .inl (cI, 2600, .inl eE)), (mW, .inl (cI, 300, .inl eW)), (mO, .inl (cI, 300, .inl eO)), (y1, .inl (cI, 61, .inl er1)), (y2, .inl (cI, 61, .inl er2)), (y3, .inl (cI, 61, .inl er3)), (y4, .inl (cI, 61, .inl er4)), (mZ, .inl (cI, 600, .inl eZ)), (oJ, .inl (cJ, 1, .inr (.inl fJ)))]) rfl
      clear hP hD hS hJ hPD9
      have hP := hPn
      have hD := hDn
      have hS := hSn
      clear hPn hDn hSn
      refine lv_pop hx hb dL_law_334 rfl ?_
      refine lv_aload_n hx hb dL_law_335 rfl (lv_at hl 2 rfl) ?_
      refine lv_aload_n hx hb dL_law_336 rfl (lv_at hl 0 rfl) ?_
      refine lv_iload hx hb dL_law_337 (lv_at hl 4 rfl) ?_
      refine lv_iconst (v := 1) hx hb dL_law_339 (by decide) ?_
      refine lv_iadd hx hb dL_law_340 ?_
      refine lv_topi (fun x_26 ex_26 => ?_)
      have tx_26 : x_26.toInt = i.toInt + 1 := v_addR (l2 := 1) (h2 := 1) ex_26 hi9 (by decide) (by decide) (by decide)
      refine va_sld hx hb hX hbl hbA hS (v_in (v_sld5 tx_26 hi (by decide))) dL_law_341 ?_
      refine lv_topi (fun x_27 ex_27 => ?_)
      have es_27 : x_27 = x_2 := by rw [ex_27, ex_2, ex_26, ex_1]
      rw [es_27]
      refine lv_aload_n hx hb dL_law_342 rfl (lv_at hl 0 rfl) ?_
      refine lv_iload hx hb dL_law_343 (lv_at hl 4 rfl) ?_
      refine lv_iconst (v := 2) hx hb dL_law_345 (by decide) ?_
      refine lv_iadd hx hb dL_law_346 ?_
      refine lv_topi (fun x_28 ex_28 => ?_)
      have tx_28 : x_28.toInt = i.toInt + 2 := v_addR (l2 := 2) (h2 := 2) ex_28 hi9 (by decide) (by decide) (by decide)
      refine va_sld hx hb hX hbl hbA hS (v_in (v_sld5 tx_28 hi (by decide))) dL_law_347 ?_
      refine lv_topi (fun x_29 ex_29 => ?_)
      have es_29 : x_29 = x_4 := by rw [ex_29, ex_4, ex_28, ex_3]
      rw [es_29]
      refine lv_aload_n hx hb dL_law_348 rfl (lv_at hl 0 rfl) ?_
      refine lv_iload hx hb dL_law_349 (lv_at hl 4 rfl) ?_
      refine lv_iconst (v := 3) hx hb dL_law_351 (by decide) ?_
      refine lv_iadd hx hb dL_law_352 ?_
      refine lv_topi (fun x_30 ex_30 => ?_)
      have tx_30 : x_30.toInt = i.toInt + 3 := v_addR (l2 := 3) (h2 := 3) ex_30 hi9 (by decide) (by decide) (by decide)
      refine va_sld hx hb hX hbl hbA hS (v_in (v_sld5 tx_30 hi (by decide))) dL_law_353 ?_
      refine lv_topi (fun x_31 ex_31 => ?_)
      have es_31 : x_31 = x_6 := by rw [ex_31, ex_6, ex_30, ex_5]
      rw [es_31]
      refine lv_aload_n hx hb dL_law_354 rfl (lv_at hl 0 rfl) ?_
      refine lv_iload hx hb dL_law_355 (lv_at hl 4 rfl) ?_
      refine lv_iconst (v := 4) hx hb dL_law_357 (by decide) ?_
      refine lv_iadd hx hb dL_law_358 ?_
      refine lv_topi (fun x_32 ex_32 => ?_)
      have tx_32 : x_32.toInt = i.toInt + 4 := v_addR (l2 := 4) (h2 := 4) ex_32 hi9 (by decide) (by decide) (by decide)
      refine va_sld hx hb hX hbl hbA hS (v_in (v_sld5 tx_32 hi (by decide))) dL_law_359 ?_
      refine lv_topi (fun x_33 ex_33 => ?_)
      have es_33 : x_33 = x_8 := by rw [ex_33, ex_8, ex_32, ex_7]
      rw [es_33]
      refine lv_aload_n hx hb dL_law_360 rfl (lv_at hl 0 rfl) ?_
      refine lv_iload hx hb dL_law_361 (lv_at hl 4 rfl) ?_
      refine lv_iconst (v := 5) hx hb dL_law_363 (by decide) ?_
      refine lv_iadd hx hb dL_law_364 ?_
      refine lv_topi (fun x_34 ex_34 => ?_)
      have tx_34 : x_34.toInt = i.toInt + 5 := v_addR (l2 := 5) (h2 := 5) ex_34 hi9 (by decide) (by decide) (by decide)
      refine va_sld hx hb hX hbl hbA hS (v_in (v_sld5 tx_34 hi (by decide))) dL_law_365 ?_
      refine lv_topi (fun x_35 ex_35 => ?_)
      have es_35 : x_35 = x_10 := by rw [ex_35, ex_10, ex_34, ex_9]
      rw [es_35]
      refine kV_i (rest := []) (q0 := 0) (ci := 12) hcf (f_X12_span l dC dI cI cS H.size oM mT mS mX mL mB mD m1 m2 mR x1 x2 x3 mH mY mE mW mO y1 y2 y3 y4 mZ zt zp zf zh zr zc zy za zb zs zq zw ze zn zm zl zk zd eL eB eD x_2 x_4 x_6 x_8 x_10 (g_zt) (g_zp) (g_zf) (g_zh) (g_zr) (g_zc) (g_zy) (g_za) (g_zb) (g_zs) (g_zq) (g_zn) (g_zm) (g_zk) (g_eL) (g_eB) (by omega)) kc_X12_span gL_law_X12_span rfl rfl rfl ⟨Nat.le_of_ble_eq_true rfl, Nat.le_of_ble_eq_true rfl⟩ kX_t hK hP hD hS hA (posT mk_9 0) (posF mk_9 0) (kC_of mk_9 rfl rfl) (by decide +kernel) rfl rfl rfl hl rfl (Nat.le_of_ble_eq_true rfl) dL_law_366 ⟨kfit2 hn (Nat.le_of_ble_eq_true rfl), ksix2 hn (Nat.le_of_ble_eq_true rfl)⟩ (fun r_36 H locs hB hJ hSn => ?_)
      refine Exists.elim hB (fun ze_36 hB36_0 => ?_)
      refine Exists.elim hB36_0 (fun zw_36 hB36_1 => ?_)
      refine Exists.elim hB36_1 (fun eL_36 hB36_2 => ?_)
      refine Exists.elim hB36_2 (fun eB_36 hB36_3 => ?_)
      refine Exists.elim hB36_3 (fun eD_36 hB36_4 => ?_)
      refine Exists.elim hB36_4 (fun zs_36 hB36_5 => ?_)
      refine And.elim (fun hPD9 hB36_6 => ?_) hB36_5
      refine And.elim (fun hf36_0 hB36_7 => ?_) hB36_6
      refine And.elim (fun hf36_1 hB36_8 => ?_) hB36_7
      refine And.elim (fun hf36_2 hB36_9 => ?_) hB36_8
      refine And.elim (fun hf36_3 hB36_10 => ?_) hB36_9
      refine And.elim (fun hf36_4 hB36_11 => ?_) hB36_10
      have hf36_5 := hB36_11
      clear hB hB36_0 hB36_1 hB36_2 hB36_3 hB36_4 hB36_5 hB36_6 hB36_7 hB36_8 hB36_9 hB36_10 hB36_11
      obtain ⟨hPn, hDn⟩ := kJi (m := mk_9) hJ rfl hPD9.1 hPD9.2 (wn := [(oX, .inr (11, [.ref nT, .ref nL, .ref nM, .ref oC, .ref oP, .ref oH, .ref oK, .ref oG, .ref oR, .ref oQ, .ref oW, .int fa_25])), (nT, .inr (5, [.ref aT, .int lT])), (aT, .inl (cI, 900, .inl fT)), (nL, .inr (5, [.ref aL, .int lL])), (aL, .inl (cI, 300, .inl fL)), (nM, .inr (5, [.ref aM, .int lM])), (aM, .inl (cI, 300, .inl fM)), (oC, .inr (2, [.ref o4, .ref o5])), (o4, .inr (10, [.ref a41, .ref a42, .ref a43, .int l4])), (a41, .inl (cI, 256, .inl f41)), (a42, .inl (cI, 512, .inl f42)), (a43, .inl (cI, 512, .inl f43)), (o5, .inr (10, [.ref a51, .ref a52, .ref a53, .int l5_25])), (a51, .inl (cI, 256, .inl f51_25)), (a52, .inl (cI, 512, .inl f52_25)), (a53, .inl (cI, 512, .inl f53_25)), (oP, .inr (7, [.ref oC, .ref nB, .int ft])), (nB, .inr (5, [.ref aB, .int lB])), (aB, .inl (cI, 2400, .inl fB)), (oH, .inr (4, [.ref oP, .ref h1, .ref h2, .int lH])), (h1, .inl (cI, 6, .inl fH1)), (h2, .inl (cI, 6, .inl fH2)), (oK, .inr (3, [.ref k1, .ref k2, .int lK])), (k1, .inl (cI, 1024, .inl fK1)), (k2, .inl (cI, 1024, .inl fK2)), (oG, .inr (0, [.ref g1, .ref g2, .int gn, .int lG])), (g1, .inl (cI, 6000, .inl fG1)), (g2, .inl (cI, 20, .inl fG2)), (oR, .inr (9, [.ref oH, .ref oK, .ref n1, .ref n2, .ref n3, .ref r1, .ref r2, .ref r3, .ref r4, .ref r5, .ref r6, .int lR])), (n1, .inr (5, [.ref a1, .int l1])), (a1, .inl (cI, 300, .inl f1)), (n2, .inr (5, [.ref a2, .int l2])), (a2, .inl (cI, 300, .inl f2)), (n3, .inr (5, [.ref a3, .int l3])), (a3, .inl (cI, 300, .inl f3)), (r1, .inl (cI, 258, .inl fR1)), (r2, .inl (cI, 258, .inl fR2)), (r3, .inl (cI, 774, .inl fR3)), (r4, .inl (cI, 258, .inl fR4)), (r5, .inl (cI, 258, .inl fR5)), (r6, .inl (cI, 774, .inl fR6)), (oQ, .inr (6, [.ref oC, .ref oH, .ref oK, .ref oE, .ref nq, .ref np, .ref nv, .ref q1, .ref q2, .ref q3, .ref q4, .int pr])), (oE, .inr (8, [.ref oC, .ref oK, .int reE, .int laE, .int suE, .int leE])), (nq, .inr (5, [.ref aq, .int lq])), (aq, .inl (cI, 480, .inl fq)), (np, .inr (5, [.ref ap, .int lp])), (ap, .inl (cI, 300, .inl fp)), (nv, .inr (5, [.ref av, .int lv])), (av, .inl (cI, 300, .inl fv)), (q1, .inl (cI, 61, .inl fQ1)), (q2, .inl (cI, 61, .inl fQ2)), (q3, .inl (cI, 61, .inl fQ3)), (q4, .inl (cI, 61, .inl fQ4)), (oW, .inr (1, [.ref oC, .ref oK, .ref nw, .ref w1, .ref w2, .ref w3, .ref o7, .ref o8, .ref o9, .ref w4, .ref w5, .ref w6, .ref w7, .int ke, .int tl, .int fsh_25, .int wi, .int ri, .int fm, .int lm])), (nw, .inr (5, [.ref aw, .int lw])), (aw, .inl (cI, 800, .inl fw)), (o7, .inr (8, [.ref oC, .ref oK, .int re7, .int la7, .int su7, .int le7])), (o8, .inr (8, [.ref oC, .ref oK, .int re8, .int la8, .int su8, .int le8])), (o9, .inr (8, [.ref oC, .ref oK, .int re9, .int la9, .int su9, .int le9])), (w1, .inl (cI, 801, .inl fW1)), (w2, .inl (cI, 801, .inl fW2)), (w3, .inl (cI, 801, .inl fW3)), (w4, .inl (cI, 200, .inl fW4)), (w5, .inl (cI, 200, .inl fW5)), (w6, .inl (cI, 200, .inl fW6)), (w7, .inl (cI, 200, .inl fW7)), (oM, .inr (12, [.ref mT, .int zt, .ref mS, .ref mX, .int zp, .int zf, .ref mL, .ref mB, .ref mD, .ref m1, .ref m2, .int zh, .ref mR, .int zr, .ref x1, .ref x2, .ref x3, .int zc, .ref mH, .int zy, .int za, .int zb, .int zs_36, .int zq, .int zw_36, .int ze_36, .ref mY, .int zn, .ref mE, .int zm, .int zl, .ref mW, .int zk, .ref mO, .int zd, .ref y1, .ref y2, .ref y3, .ref y4, .ref mZ])), (mT, .inl (cI, 900, .inl eT)), (mS, .inl (cI, 21, .inl eS)), (mX, .inl (cI, 6300, .inl eX)), (mL, .inl (cI, 512, .inl eL_36)), (mB, .inl (cS, 131072, .inl eB_36)), (mD, .inl (cI, 2, .inl eD_36)), (m1, .inl (cI, 6, .inl e1)), (m2, .inl (cI, 6, .inl e2)), (mR, .inl (cI, 1548, .inl eR)), (x1, .inl (cI, 300, .inl ec1)), (x2, .inl (cI, 300, .inl ec2)), (x3, .inl (cI, 300, .inl ec3)), (mH, .inl (cI, 800, .inl eH)), (mY, .inl (cI, 2600, .inl eY)), (mE, .inl (cI, 2600, .inl eE)), (mW, .inl (cI, 300, .inl eW)), (mO, .inl (cI, 300, .inl eO)), (y1, .inl (cI, 61, .inl er1)), (y2, .inl (cI, 61, .inl er2)), (y3, .inl (cI, 61, .inl er3)), (y4, .inl (cI, 61, .inl er4)), (mZ, .inl (cI, 600, .inl eZ)), (oJ, .inl (cJ, 1, .inr (.inl fJ)))]) rfl
      clear hP hD hS hJ hPD9
      have hP := hPn
      have hD := hDn
      have hS := hSn
      clear hPn hDn hSn
      refine lv_pop hx hb dL_law_369 rfl ?_
      refine lv_goto (tgt := 1022) hx hb dL_law_370 (by decide) ?_
      have hdf : DFr fsh fsh_25 zs zs_36 := d_sp hf25_2 hf36_5 (sp_iff (by decide) (by omega) hr5)
      refine W.widen (k := 90 + (nc + 1)) (n := 172225 + 6 * (nc + 1)) (by omega) (by omega) ?_
      exact kk fa_25 lT lL lM l4 l5_25 ft lB lH lK gn lG lR l1 l2 l3 pr reE laE suE leE lq lp lv ke tl fsh_25 wi ri fm lm lw re7 la7 su7 le7 re8 la8 su8 le8 re9 la9 su9 le9 zt zp zf zh zr zc zy za zb zs_36 zq zw_36 ze_36 zn zm zl zk zd fT fL fM f41 f42 f43 f51_25 f52_25 f53_25 fB fH1 fH2 fK1 fK2 fG1 fG2 f1 f2 f3 fR1 fR2 fR3 fR4 fR5 fR6 fq fp fv fQ1 fQ2 fQ3 fQ4 fw fW1 fW2 fW3 fW4 fW5 fW6 fW7 eT eS eX eL_36 eB_36 eD_36 e1 e2 eR ec1 ec2 ec3 eH eY eE eW eO er1 er2 er3 er4 eZ fJ _ _ _ ⟨g_lT, g_lL, g_lM, g_lB, g_lH, g_lK, g_gn, g_lG, g_lR, g_l1, g_l2, g_l3, g_lq, g_lp, g_lv, g_ke, hf25_0, g_fm, g_lm, g_lw, g_zt, g_zp, g_zf, g_zh, g_zr, g_zc, g_zy, g_za, g_zb, hf36_2, g_zq, g_zn, g_zm, g_zk, g_fG2, g_eS, g_eX, hf36_0, hf36_1, g_e1, g_e2, g_eY, g_eE, g_eW, g_eO, g_eZ, by omega, hrel, hrc, span_other (by decide) (by omega) hr4 hf36_4, (span_eq (by decide) (by omega) hr5 hf25_1 hf36_4).2, LB_span (by decide) hb4 hf36_4, LB_span (by decide) hb5 hf36_4, LZ_span hlz hf36_4, hH, hHe, hKz, hT, ho, hal, hCV, hVk, hVr, hTX, hCH, hvc, fr_d hfr hdf, fx_d hfx hdf, frs_sp hfs hfr hf36_4 hf36_5⟩ hP hD hS (lv_sub hl [0, 1, 2, 3, 4] rfl)
    · skip
      refine kV_i (rest := []) (q0 := 0) (ci := 11) hcf (x_span_n l dC dI cI cS H.size oX nT nL nM oC oP oH oK oG oR oQ oW o4 o5 fa x_2 x_4 x_6 x_8 x_10 (by omega) (by omega)) kc_X11_span gL_law_X11_span rfl rfl rfl ⟨Nat.le_of_ble_eq_true rfl, Nat.le_of_ble_eq_true rfl⟩ kX_t hK hP hD hS hA (posT mk_11 0) (posF mk_11 0) (kC_of mk_11 rfl rfl) (by decide +kernel) rfl rfl rfl hl rfl (Nat.le_of_ble_eq_true rfl) dL_law_331 ⟨kfit1 hn (Nat.le_of_ble_eq_true rfl), ksix1 hn (Nat.le_of_ble_eq_true rfl)⟩ (fun r_37 H locs hB hJ hSn => ?_)
      refine Exists.elim hB (fun fa_37 hB37_0 => ?_)
      refine And.elim (fun hPD9 hB37_1 => ?_) hB37_0
      have hf37_0 := hB37_1
      clear hB hB37_0 hB37_1
      obtain ⟨hPn, hDn⟩ := kJi (m := mk_11) hJ rfl hPD9.1 hPD9.2 (wn := [(oX, .inr (11, [.ref nT, .ref nL, .ref nM, .ref oC, .ref oP, .ref oH, .ref oK, .ref oG, .ref oR, .ref oQ, .ref oW, .int fa_37])), (nT, .inr (5, [.ref aT, .int lT])), (aT, .inl (cI, 900, .inl fT)), (nL, .inr (5, [.ref aL, .int lL])), (aL, .inl (cI, 300, .inl fL)), (nM, .inr (5, [.ref aM, .int lM])), (aM, .inl (cI, 300, .inl fM)), (oC, .inr (2, [.ref o4, .ref o5])), (o4, .inr (10, [.ref a41, .ref a42, .ref a43, .int l4])), (a41, .inl (cI, 256, .inl f41)), (a42, .inl (cI, 512, .inl f42)), (a43, .inl (cI, 512, .inl f43)), (o5, .inr (10, [.ref a51, .ref a52, .ref a53, .int l5])), (a51, .inl (cI, 256, .inl f51)), (a52, .inl (cI, 512, .inl f52)), (a53, .inl (cI, 512, .inl f53)), (oP, .inr (7, [.ref oC, .ref nB, .int ft])), (nB, .inr (5, [.ref aB, .int lB])), (aB, .inl (cI, 2400, .inl fB)), (oH, .inr (4, [.ref oP, .ref h1, .ref h2, .int lH])), (h1, .inl (cI, 6, .inl fH1)), (h2, .inl (cI, 6, .inl fH2)), (oK, .inr (3, [.ref k1, .ref k2, .int lK])), (k1, .inl (cI, 1024, .inl fK1)), (k2, .inl (cI, 1024, .inl fK2)), (oG, .inr (0, [.ref g1, .ref g2, .int gn, .int lG])), (g1, .inl (cI, 6000, .inl fG1)), (g2, .inl (cI, 20, .inl fG2)), (oR, .inr (9, [.ref oH, .ref oK, .ref n1, .ref n2, .ref n3, .ref r1, .ref r2, .ref r3, .ref r4, .ref r5, .ref r6, .int lR])), (n1, .inr (5, [.ref a1, .int l1])), (a1, .inl (cI, 300, .inl f1)), (n2, .inr (5, [.ref a2, .int l2])), (a2, .inl (cI, 300, .inl f2)), (n3, .inr (5, [.ref a3, .int l3])), (a3, .inl (cI, 300, .inl f3)), (r1, .inl (cI, 258, .inl fR1)), (r2, .inl (cI, 258, .inl fR2)), (r3, .inl (cI, 774, .inl fR3)), (r4, .inl (cI, 258, .inl fR4)), (r5, .inl (cI, 258, .inl fR5)), (r6, .inl (cI, 774, .inl fR6)), (oQ, .inr (6, [.ref oC, .ref oH, .ref oK, .ref oE, .ref nq, .ref np, .ref nv, .ref q1, .ref q2, .ref q3, .ref q4, .int pr])), (oE, .inr (8, [.ref oC, .ref oK, .int reE, .int laE, .int suE, .int leE])), (nq, .inr (5, [.ref aq, .int lq])), (aq, .inl (cI, 480, .inl fq)), (np, .inr (5, [.ref ap, .int lp])), (ap, .inl (cI, 300, .inl fp)), (nv, .inr (5, [.ref av, .int lv])), (av, .inl (cI, 300, .inl fv)), (q1, .inl (cI, 61, .inl fQ1)), (q2, .inl (cI, 61, .inl fQ2)), (q3, .inl (cI, 61, .inl fQ3)), (q4, .inl (cI, 61, .inl fQ4)), (oW, .inr (1, [.ref oC, .ref oK, .ref nw, .ref w1, .ref w2, .ref w3, .ref o7, .ref o8, .ref o9, .ref w4, .ref w5, .ref w6, .ref w7, .int ke, .int tl, .int fsh, .int wi, .int ri, .int fm, .int lm])), (nw, .inr (5, [.ref aw, .int lw])), (aw, .inl (cI, 800, .inl fw)), (o7, .inr (8, [.ref oC, .ref oK, .int re7, .int la7, .int su7, .int le7])), (o8, .inr (8, [.ref oC, .ref oK, .int re8, .int la8, .int su8, .int le8])), (o9, .inr (8, [.ref oC, .ref oK, .int re9, .int la9, .int su9, .int le9])), (w1, .inl (cI, 801, .inl fW1)), (w2, .inl (cI, 801, .inl fW2)), (w3, .inl (cI, 801, .inl fW3)), (w4, .inl (cI, 200, .inl fW4)), (w5, .inl (cI, 200, .inl fW5)), (w6, .inl (cI, 200, .inl fW6)), (w7, .inl (cI, 200, .inl fW7)), (oM, .inr (12, [.ref mT, .int zt, .ref mS, .ref mX, .int zp, .int zf, .ref mL, .ref mB, .ref mD, .ref m1, .ref m2, .int zh, .ref mR, .int zr, .ref x1, .ref x2, .ref x3, .int zc, .ref mH, .int zy, .int za, .int zb, .int zs, .int zq, .int zw, .int ze, .ref mY, .int zn, .ref mE, .int zm, .int zl, .ref mW, .int zk, .ref mO, .int zd, .ref y1, .ref y2, .ref y3, .ref y4, .ref mZ])), (mT, .inl (cI, 900, .inl eT)), (mS, .inl (cI, 21, .inl eS)), (mX, .inl (cI, 6300, .inl eX)), (mL, .inl (cI, 512, .inl eL)), (mB, .inl (cS, 131072, .inl eB)), (mD, .inl (cI, 2, .inl eD)), (m1, .inl (cI, 6, .inl e1)), (m2, .inl (cI, 6, .inl e2)), (mR, .inl (cI, 1548, .inl eR)), (x1, .inl (cI, 300, .inl ec1)), (x2, .inl (cI, 300, .inl ec2)), (x3, .inl (cI, 300, .inl ec3)), (mH, .inl (cI, 800, .inl eH)), (mY, .inl (cI, 2600, .inl eY)), (mE, .inl (cI, 2600, .inl eE)), (mW, .inl (cI, 300, .inl eW)), (mO, .inl (cI, 300, .inl eO)), (y1, .inl (cI, 61, .inl er1)), (y2, .inl (cI, 61, .inl er2)), (y3, .inl (cI, 61, .inl er3)), (y4, .inl (cI, 61, .inl er4)), (mZ, .inl (cI, 600, .inl eZ)), (oJ, .inl (cJ, 1, .inr (.inl fJ)))]) rfl
      clear hP hD hS hJ hPD9
      have hP := hPn
      have hD := hDn
      have hS := hSn
      clear hPn hDn hSn
      rw [hf37_0]
      refine lv_pop hx hb dL_law_334 rfl ?_
      refine lv_aload_n hx hb dL_law_335 rfl (lv_at hl 2 rfl) ?_
      refine lv_aload_n hx hb dL_law_336 rfl (lv_at hl 0 rfl) ?_
      refine lv_iload hx hb dL_law_337 (lv_at hl 4 rfl) ?_
      refine lv_iconst (v := 1) hx hb dL_law_339 (by decide) ?_
      refine lv_iadd hx hb dL_law_340 ?_
      refine lv_topi (fun x_38 ex_38 => ?_)
      have tx_38 : x_38.toInt = i.toInt + 1 := v_addR (l2 := 1) (h2 := 1) ex_38 hi9 (by decide) (by decide) (by decide)
      refine va_sld hx hb hX hbl hbA hS (v_in (v_sld5 tx_38 hi (by decide))) dL_law_341 ?_
      refine lv_topi (fun x_39 ex_39 => ?_)
      have es_39 : x_39 = x_2 := by rw [ex_39, ex_2, ex_38, ex_1]
      rw [es_39]
      refine lv_aload_n hx hb dL_law_342 rfl (lv_at hl 0 rfl) ?_
      refine lv_iload hx hb dL_law_343 (lv_at hl 4 rfl) ?_
      refine lv_iconst (v := 2) hx hb dL_law_345 (by decide) ?_
      refine lv_iadd hx hb dL_law_346 ?_
      refine lv_topi (fun x_40 ex_40 => ?_)
      have tx_40 : x_40.toInt = i.toInt + 2 := v_addR (l2 := 2) (h2 := 2) ex_40 hi9 (by decide) (by decide) (by decide)
      refine va_sld hx hb hX hbl hbA hS (v_in (v_sld5 tx_40 hi (by decide))) dL_law_347 ?_
      refine lv_topi (fun x_41 ex_41 => ?_)
      have es_41 : x_41 = x_4 := by rw [ex_41, ex_4, ex_40, ex_3]
      rw [es_41]
      refine lv_aload_n hx hb dL_law_348 rfl (lv_at hl 0 rfl) ?_
      refine lv_iload hx hb dL_law_349 (lv_at hl 4 rfl) ?_
      refine lv_iconst (v := 3) hx hb dL_law_351 (by decide) ?_
      refine lv_iadd hx hb dL_law_352 ?_
      refine lv_topi (fun x_42 ex_42 => ?_)
      have tx_42 : x_42.toInt = i.toInt + 3 := v_addR (l2 := 3) (h2 := 3) ex_42 hi9 (by decide) (by decide) (by decide)
      refine va_sld hx hb hX hbl hbA hS (v_in (v_sld5 tx_42 hi (by decide))) dL_law_353 ?_
      refine lv_topi (fun x_43 ex_43 => ?_)
      have es_43 : x_43 = x_6 := by rw [ex_43, ex_6, ex_42, ex_5]
      rw [es_43]
      refine lv_aload_n hx hb dL_law_354 rfl (lv_at hl 0 rfl) ?_
      refine lv_iload hx hb dL_law_355 (lv_at hl 4 rfl) ?_
      refine lv_iconst (v := 4) hx hb dL_law_357 (by decide) ?_
      refine lv_iadd hx hb dL_law_358 ?_
      refine lv_topi (fun x_44 ex_44 => ?_)
      have tx_44 : x_44.toInt = i.toInt + 4 := v_addR (l2 := 4) (h2 := 4) ex_44 hi9 (by decide) (by decide) (by decide)
      refine va_sld hx hb hX hbl hbA hS (v_in (v_sld5 tx_44 hi (by decide))) dL_law_359 ?_
      refine lv_topi (fun x_45 ex_45 => ?_)
      have es_45 : x_45 = x_8 := by rw [ex_45, ex_8, ex_44, ex_7]
      rw [es_45]
      refine lv_aload_n hx hb dL_law_360 rfl (lv_at hl 0 rfl) ?_
      refine lv_iload hx hb dL_law_361 (lv_at hl 4 rfl) ?_
      refine lv_iconst (v := 5) hx hb dL_law_363 (by decide) ?_
      refine lv_iadd hx hb dL_law_364 ?_
      refine lv_topi (fun x_46 ex_46 => ?_)
      have tx_46 : x_46.toInt = i.toInt + 5 := v_addR (l2 := 5) (h2 := 5) ex_46 hi9 (by decide) (by decide) (by decide)
      refine va_sld hx hb hX hbl hbA hS (v_in (v_sld5 tx_46 hi (by decide))) dL_law_365 ?_
      refine lv_topi (fun x_47 ex_47 => ?_)
      have es_47 : x_47 = x_10 := by rw [ex_47, ex_10, ex_46, ex_9]
      rw [es_47]
      refine kV_i (rest := []) (q0 := 0) (ci := 12) hcf (f_X12_span l dC dI cI cS H.size oM mT mS mX mL mB mD m1 m2 mR x1 x2 x3 mH mY mE mW mO y1 y2 y3 y4 mZ zt zp zf zh zr zc zy za zb zs zq zw ze zn zm zl zk zd eL eB eD x_2 x_4 x_6 x_8 x_10 (g_zt) (g_zp) (g_zf) (g_zh) (g_zr) (g_zc) (g_zy) (g_za) (g_zb) (g_zs) (g_zq) (g_zn) (g_zm) (g_zk) (g_eL) (g_eB) (by omega)) kc_X12_span gL_law_X12_span rfl rfl rfl ⟨Nat.le_of_ble_eq_true rfl, Nat.le_of_ble_eq_true rfl⟩ kX_t hK hP hD hS hA (posT mk_9 0) (posF mk_9 0) (kC_of mk_9 rfl rfl) (by decide +kernel) rfl rfl rfl hl rfl (Nat.le_of_ble_eq_true rfl) dL_law_366 ⟨kfit2 hn (Nat.le_of_ble_eq_true rfl), ksix2 hn (Nat.le_of_ble_eq_true rfl)⟩ (fun r_48 H locs hB hJ hSn => ?_)
      refine Exists.elim hB (fun ze_48 hB48_0 => ?_)
      refine Exists.elim hB48_0 (fun zw_48 hB48_1 => ?_)
      refine Exists.elim hB48_1 (fun eL_48 hB48_2 => ?_)
      refine Exists.elim hB48_2 (fun eB_48 hB48_3 => ?_)
      refine Exists.elim hB48_3 (fun eD_48 hB48_4 => ?_)
      refine Exists.elim hB48_4 (fun zs_48 hB48_5 => ?_)
      refine And.elim (fun hPD9 hB48_6 => ?_) hB48_5
      refine And.elim (fun hf48_0 hB48_7 => ?_) hB48_6
      refine And.elim (fun hf48_1 hB48_8 => ?_) hB48_7
      refine And.elim (fun hf48_2 hB48_9 => ?_) hB48_8
      refine And.elim (fun hf48_3 hB48_10 => ?_) hB48_9
      refine And.elim (fun hf48_4 hB48_11 => ?_) hB48_10
      have hf48_5 := hB48_11
      clear hB hB48_0 hB48_1 hB48_2 hB48_3 hB48_4 hB48_5 hB48_6 hB48_7 hB48_8 hB48_9 hB48_10 hB48_11
      obtain ⟨hPn, hDn⟩ := kJi (m := mk_9) hJ rfl hPD9.1 hPD9.2 (wn := [(oX, .inr (11, [.ref nT, .ref nL, .ref nM, .ref oC, .ref oP, .ref oH, .ref oK, .ref oG, .ref oR, .ref oQ, .ref oW, .int fa_37])), (nT, .inr (5, [.ref aT, .int lT])), (aT, .inl (cI, 900, .inl fT)), (nL, .inr (5, [.ref aL, .int lL])), (aL, .inl (cI, 300, .inl fL)), (nM, .inr (5, [.ref aM, .int lM])), (aM, .inl (cI, 300, .inl fM)), (oC, .inr (2, [.ref o4, .ref o5])), (o4, .inr (10, [.ref a41, .ref a42, .ref a43, .int l4])), (a41, .inl (cI, 256, .inl f41)), (a42, .inl (cI, 512, .inl f42)), (a43, .inl (cI, 512, .inl f43)), (o5, .inr (10, [.ref a51, .ref a52, .ref a53, .int l5])), (a51, .inl (cI, 256, .inl f51)), (a52, .inl (cI, 512, .inl f52)), (a53, .inl (cI, 512, .inl f53)), (oP, .inr (7, [.ref oC, .ref nB, .int ft])), (nB, .inr (5, [.ref aB, .int lB])), (aB, .inl (cI, 2400, .inl fB)), (oH, .inr (4, [.ref oP, .ref h1, .ref h2, .int lH])), (h1, .inl (cI, 6, .inl fH1)), (h2, .inl (cI, 6, .inl fH2)), (oK, .inr (3, [.ref k1, .ref k2, .int lK])), (k1, .inl (cI, 1024, .inl fK1)), (k2, .inl (cI, 1024, .inl fK2)), (oG, .inr (0, [.ref g1, .ref g2, .int gn, .int lG])), (g1, .inl (cI, 6000, .inl fG1)), (g2, .inl (cI, 20, .inl fG2)), (oR, .inr (9, [.ref oH, .ref oK, .ref n1, .ref n2, .ref n3, .ref r1, .ref r2, .ref r3, .ref r4, .ref r5, .ref r6, .int lR])), (n1, .inr (5, [.ref a1, .int l1])), (a1, .inl (cI, 300, .inl f1)), (n2, .inr (5, [.ref a2, .int l2])), (a2, .inl (cI, 300, .inl f2)), (n3, .inr (5, [.ref a3, .int l3])), (a3, .inl (cI, 300, .inl f3)), (r1, .inl (cI, 258, .inl fR1)), (r2, .inl (cI, 258, .inl fR2)), (r3, .inl (cI, 774, .inl fR3)), (r4, .inl (cI, 258, .inl fR4)), (r5, .inl (cI, 258, .inl fR5)), (r6, .inl (cI, 774, .inl fR6)), (oQ, .inr (6, [.ref oC, .ref oH, .ref oK, .ref oE, .ref nq, .ref np, .ref nv, .ref q1, .ref q2, .ref q3, .ref q4, .int pr])), (oE, .inr (8, [.ref oC, .ref oK, .int reE, .int laE, .int suE, .int leE])), (nq, .inr (5, [.ref aq, .int lq])), (aq, .inl (cI, 480, .inl fq)), (np, .inr (5, [.ref ap, .int lp])), (ap, .inl (cI, 300, .inl fp)), (nv, .inr (5, [.ref av, .int lv])), (av, .inl (cI, 300, .inl fv)), (q1, .inl (cI, 61, .inl fQ1)), (q2, .inl (cI, 61, .inl fQ2)), (q3, .inl (cI, 61, .inl fQ3)), (q4, .inl (cI, 61, .inl fQ4)), (oW, .inr (1, [.ref oC, .ref oK, .ref nw, .ref w1, .ref w2, .ref w3, .ref o7, .ref o8, .ref o9, .ref w4, .ref w5, .ref w6, .ref w7, .int ke, .int tl, .int fsh, .int wi, .int ri, .int fm, .int lm])), (nw, .inr (5, [.ref aw, .int lw])), (aw, .inl (cI, 800, .inl fw)), (o7, .inr (8, [.ref oC, .ref oK, .int re7, .int la7, .int su7, .int le7])), (o8, .inr (8, [.ref oC, .ref oK, .int re8, .int la8, .int su8, .int le8])), (o9, .inr (8, [.ref oC, .ref oK, .int re9, .int la9, .int su9, .int le9])), (w1, .inl (cI, 801, .inl fW1)), (w2, .inl (cI, 801, .inl fW2)), (w3, .inl (cI, 801, .inl fW3)), (w4, .inl (cI, 200, .inl fW4)), (w5, .inl (cI, 200, .inl fW5)), (w6, .inl (cI, 200, .inl fW6)), (w7, .inl (cI, 200, .inl fW7)), (oM, .inr (12, [.ref mT, .int zt, .ref mS, .ref mX, .int zp, .int zf, .ref mL, .ref mB, .ref mD, .ref m1, .ref m2, .int zh, .ref mR, .int zr, .ref x1, .ref x2, .ref x3, .int zc, .ref mH, .int zy, .int za, .int zb, .int zs_48, .int zq, .int zw_48, .int ze_48, .ref mY, .int zn, .ref mE, .int zm, .int zl, .ref mW, .int zk, .ref mO, .int zd, .ref y1, .ref y2, .ref y3, .ref y4, .ref mZ])), (mT, .inl (cI, 900, .inl eT)), (mS, .inl (cI, 21, .inl eS)), (mX, .inl (cI, 6300, .inl eX)), (mL, .inl (cI, 512, .inl eL_48)), (mB, .inl (cS, 131072, .inl eB_48)), (mD, .inl (cI, 2, .inl eD_48)), (m1, .inl (cI, 6, .inl e1)), (m2, .inl (cI, 6, .inl e2)), (mR, .inl (cI, 1548, .inl eR)), (x1, .inl (cI, 300, .inl ec1)), (x2, .inl (cI, 300, .inl ec2)), (x3, .inl (cI, 300, .inl ec3)), (mH, .inl (cI, 800, .inl eH)), (mY, .inl (cI, 2600, .inl eY)), (mE, .inl (cI, 2600, .inl eE)), (mW, .inl (cI, 300, .inl eW)), (mO, .inl (cI, 300, .inl eO)), (y1, .inl (cI, 61, .inl er1)), (y2, .inl (cI, 61, .inl er2)), (y3, .inl (cI, 61, .inl er3)), (y4, .inl (cI, 61, .inl er4)), (mZ, .inl (cI, 600, .inl eZ)), (oJ, .inl (cJ, 1, .inr (.inl fJ)))]) rfl
      clear hP hD hS hJ hPD9
      have hP := hPn
      have hD := hDn
      have hS := hSn
      clear hPn hDn hSn
      refine lv_pop hx hb dL_law_369 rfl ?_
      refine lv_goto (tgt := 1022) hx hb dL_law_370 (by decide) ?_
      have hdf : DFr fsh fsh zs zs_48 := sp_no (by omega) (by omega) hf48_5
      refine W.widen (k := 90 + (nc + 1)) (n := 172225 + 6 * (nc + 1)) (by omega) (by omega) ?_
      exact kk fa_37 lT lL lM l4 l5 ft lB lH lK gn lG lR l1 l2 l3 pr reE laE suE leE lq lp lv ke tl fsh wi ri fm lm lw re7 la7 su7 le7 re8 la8 su8 le8 re9 la9 su9 le9 zt zp zf zh zr zc zy za zb zs_48 zq zw_48 ze_48 zn zm zl zk zd fT fL fM f41 f42 f43 f51 f52 f53 fB fH1 fH2 fK1 fK2 fG1 fG2 f1 f2 f3 fR1 fR2 fR3 fR4 fR5 fR6 fq fp fv fQ1 fQ2 fQ3 fQ4 fw fW1 fW2 fW3 fW4 fW5 fW6 fW7 eT eS eX eL_48 eB_48 eD_48 e1 e2 eR ec1 ec2 ec3 eH eY eE eW eO er1 er2 er3 er4 eZ fJ _ _ _ ⟨g_lT, g_lL, g_lM, g_lB, g_lH, g_lK, g_gn, g_lG, g_lR, g_l1, g_l2, g_l3, g_lq, g_lp, g_lv, g_ke, g_fsh, g_fm, g_lm, g_lw, g_zt, g_zp, g_zf, g_zh, g_zr, g_zc, g_zy, g_za, g_zb, hf48_2, g_zq, g_zn, g_zm, g_zk, g_fG2, g_eS, g_eX, hf48_0, hf48_1, g_e1, g_e2, g_eY, g_eE, g_eW, g_eO, g_eZ, by omega, hrel, hrc, span_other (by decide) (by omega) hr4 hf48_4, span_other (by decide) (by omega) hr5 hf48_4, LB_span (by decide) hb4 hf48_4, LB_span (by decide) hb5 hf48_4, LZ_span hlz hf48_4, hH, hHe, hKz, hT, ho, hal, hCV, hVk, hVr, hTX, hCH, hvc, fr_d hfr hdf, hfx, frs_sp hfs hfr hf48_4 hf48_5⟩ hP hD hS (lv_sub hl [0, 1, 2, 3, 4] rfl)

set_option maxHeartbeats 40000000 in
set_option maxRecDepth 100000 in
theorem law_blank {p : Program} {l : Launch} {e : Env} {s : State} {m : MethodId} {below : List Frame} {meth : Method} {c : Code} {dC : Nat → ClassId} {dI : Nat → Nat → Nat} {cI cS cJ : ClassId} {A : Nat → Prop} {b L : Nat} {xs : Nat → Int32} (C0 : lw_At p s m meth c b L xs) (hAd : A = fun q : Nat => s.heap.size ≤ q) (hK3 : va_K (dC, dI) vwCl [(cI, .int), (cS, .short), (cJ, .long)] s) {oX nT aT nL aL nM aM oC o4 a41 a42 a43 o5 a51 a52 a53 oP nB aB oH h1 h2 oK k1 k2 oG g1 g2 oR n1 a1 n2 a2 n3 a3 r1 r2 r3 r4 r5 r6 oQ oE nq aq np ap nv av q1 q2 q3 q4 oW nw aw o7 o8 o9 w1 w2 w3 w4 w5 w6 w7 oM mT mS mX mL mB mD m1 m2 mR x1 x2 x3 mH mY mE mW mO y1 y2 y3 y4 mZ oJ : Nat} {fa : Int32} {lT : Int32} {lL : Int32} {lM : Int32} {l4 : Int32} {l5 : Int32} {ft : Int32} {lB : Int32} {lH : Int32} {lK : Int32} {gn : Int32} {lG : Int32} {lR : Int32} {l1 : Int32} {l2 : Int32} {l3 : Int32} {pr : Int32} {reE : Int32} {laE : Int32} {suE : Int32} {leE : Int32} {lq : Int32} {lp : Int32} {lv : Int32} {ke : Int32} {tl : Int32} {fsh : Int32} {wi : Int32} {ri : Int32} {fm : Int32} {lm : Int32} {lw : Int32} {re7 : Int32} {la7 : Int32} {su7 : Int32} {le7 : Int32} {re8 : Int32} {la8 : Int32} {su8 : Int32} {le8 : Int32} {re9 : Int32} {la9 : Int32} {su9 : Int32} {le9 : Int32} {zt : Int32} {zp : Int32} {zf : Int32} {zh : Int32} {zr : Int32} {zc : Int32} {zy : Int32} {za : Int32} {zb : Int32} {zs : Int32} {zq : Int32} {zw : Int32} {ze : Int32} {zn : Int32} {zm : Int32} {zl : Int32} {zk : Int32} {zd : Int32} {fT : Nat → Int32} {fL : Nat → Int32} {fM : Nat → Int32} {f41 : Nat → Int32} {f42 : Nat → Int32} {f43 : Nat → Int32} {f51 : Nat → Int32} {f52 : Nat → Int32} {f53 : Nat → Int32} {fB : Nat → Int32} {fH1 : Nat → Int32} {fH2 : Nat → Int32} {fK1 : Nat → Int32} {fK2 : Nat → Int32} {fG1 : Nat → Int32} {fG2 : Nat → Int32} {f1 : Nat → Int32} {f2 : Nat → Int32} {f3 : Nat → Int32} {fR1 : Nat → Int32} {fR2 : Nat → Int32} {fR3 : Nat → Int32} {fR4 : Nat → Int32} {fR5 : Nat → Int32} {fR6 : Nat → Int32} {fq : Nat → Int32} {fp : Nat → Int32} {fv : Nat → Int32} {fQ1 : Nat → Int32} {fQ2 : Nat → Int32} {fQ3 : Nat → Int32} {fQ4 : Nat → Int32} {fw : Nat → Int32} {fW1 : Nat → Int32} {fW2 : Nat → Int32} {fW3 : Nat → Int32} {fW4 : Nat → Int32} {fW5 : Nat → Int32} {fW6 : Nat → Int32} {fW7 : Nat → Int32} {eT : Nat → Int32} {eS : Nat → Int32} {eX : Nat → Int32} {eL : Nat → Int32} {eB : Nat → Int32} {eD : Nat → Int32} {e1 : Nat → Int32} {e2 : Nat → Int32} {eR : Nat → Int32} {ec1 : Nat → Int32} {ec2 : Nat → Int32} {ec3 : Nat → Int32} {eH : Nat → Int32} {eY : Nat → Int32} {eE : Nat → Int32} {eW : Nat → Int32} {eO : Nat → Int32} {er1 : Nat → Int32} {er2 : Nat → Int32} {er3 : Nat → Int32} {er4 : Nat → Int32} {eZ : Nat → Int32} {fJ : Nat → Int64} {H : Heap} {locs : List Loc} {ls : Array Slot} {i : Int32} {nc : Nat} (hn : nc ≤ 511) (hi : 0 ≤ i.toInt ∧ i.toInt + 5 < (L : Int)) (hL : L ≤ 3072) (hI : INV nc lT lL lM l4 l5 lB lH lK gn lG lR l1 l2 l3 lq lp lv ke fsh wi ri fm lm lw zt zp zf zh zr zc zy za zb zs zq zn zm zk fT fL f41 f42 f43 f51 f52 f53 fH1 fH2 fK1 fK2 fG1 fG2 fW4 fW5 fW6 fW7 eT eS eX eL eB eD e1 e2 ec1 ec2 ec3 eH eY eE eW eO eZ) (hP : va_P (dC, dI) vwCl (WLD cI cS cJ oX nT aT nL aL nM aM oC o4 a41 a42 a43 o5 a51 a52 a53 oP nB aB oH h1 h2 oK k1 k2 oG g1 g2 oR n1 a1 n2 a2 n3 a3 r1 r2 r3 r4 r5 r6 oQ oE nq aq np ap nv av q1 q2 q3 q4 oW nw aw o7 o8 o9 w1 w2 w3 w4 w5 w6 w7 oM mT mS mX mL mB mD m1 m2 mR x1 x2 x3 mH mY mE mW mO y1 y2 y3 y4 mZ oJ fa lT lL lM l4 l5 ft lB lH lK gn lG lR l1 l2 l3 pr reE laE suE leE lq lp lv ke tl fsh wi ri fm lm lw re7 la7 su7 le7 re8 la8 su8 le8 re9 la9 su9 le9 zt zp zf zh zr zc zy za zb zs zq zw ze zn zm zl zk zd fT fL fM f41 f42 f43 f51 f52 f53 fB fH1 fH2 fK1 fK2 fG1 fG2 f1 f2 f3 fR1 fR2 fR3 fR4 fR5 fR6 fq fp fv fQ1 fQ2 fQ3 fQ4 fw fW1 fW2 fW3 fW4 fW5 fW6 fW7 eT eS eX eL eB eD e1 e2 eR ec1 ec2 ec3 eH eY eE eW eO er1 er2 er3 er4 eZ fJ) H) (hD : va_D A (WLD cI cS cJ oX nT aT nL aL nM aM oC o4 a41 a42 a43 o5 a51 a52 a53 oP nB aB oH h1 h2 oK k1 k2 oG g1 g2 oR n1 a1 n2 a2 n3 a3 r1 r2 r3 r4 r5 r6 oQ oE nq aq np ap nv av q1 q2 q3 q4 oW nw aw o7 o8 o9 w1 w2 w3 w4 w5 w6 w7 oM mT mS mX mL mB mD m1 m2 mR x1 x2 x3 mH mY mE mW mO y1 y2 y3 y4 mZ oJ fa lT lL lM l4 l5 ft lB lH lK gn lG lR l1 l2 l3 pr reE laE suE leE lq lp lv ke tl fsh wi ri fm lm lw re7 la7 su7 le7 re8 la8 su8 le8 re9 la9 su9 le9 zt zp zf zh zr zc zy za zb zs zq zw ze zn zm zl zk zd fT fL fM f41 f42 f43 f51 f52 f53 fB fH1 fH2 fK1 fK2 fG1 fG2 f1 f2 f3 fR1 fR2 fR3 fR4 fR5 fR6 fq fp fv fQ1 fQ2 fQ3 fQ4 fw fW1 fW2 fW3 fW4 fW5 fW6 fW7 eT eS eX eL eB eD e1 e2 eR ec1 ec2 ec3 eH eY eE eW eO er1 er2 er3 er4 eZ fJ)) (hS : va_S A s.heap H locs) (hl : lv_has ls 7 [(0, .ref b), (1, .ref oX), (2, .ref oM), (3, .ref oJ), (4, .int i)]) (kk : KK p l e s m below meth c dC dI cI cS cJ A b oX nT aT nL aL nM aM oC o4 a41 a42 a43 o5 a51 a52 a53 oP nB aB oH h1 h2 oK k1 k2 oG g1 g2 oR n1 a1 n2 a2 n3 a3 r1 r2 r3 r4 r5 r6 oQ oE nq aq np ap nv av q1 q2 q3 q4 oW nw aw o7 o8 o9 w1 w2 w3 w4 w5 w6 w7 oM mT mS mX mL mB mD m1 m2 mR x1 x2 x3 mH mY mE mW mO y1 y2 y3 y4 mZ oJ i nc) : W p l e room_1 s m #[Value.ref b] below meth c H locs (90 + nc) (172225 + 6 * nc) (lw_Z below #[Value.ref b] s) (F0 m 373 ls []) := by
  refine And.elim (fun hx hBC_0 => ?_) C0
  refine And.elim (fun hb hBC_1 => ?_) hBC_0
  refine And.elim (fun hr hBC_2 => ?_) hBC_1
  refine And.elim (fun hml hBC_3 => ?_) hBC_2
  refine And.elim (fun hown hBC_4 => ?_) hBC_3
  refine And.elim (fun hts0 hBC_5 => ?_) hBC_4
  refine And.elim (fun hX hBC_6 => ?_) hBC_5
  refine And.elim (fun hbl hBC_7 => ?_) hBC_6
  refine And.elim (fun hlocks hBC_8 => ?_) hBC_7
  have hgv := hBC_8
  clear hBC_0 hBC_1 hBC_2 hBC_3 hBC_4 hBC_5 hBC_6 hBC_7 hBC_8
  refine And.elim (fun g_lT hBI_0 => ?_) hI
  refine And.elim (fun g_lL hBI_1 => ?_) hBI_0
  refine And.elim (fun g_lM hBI_2 => ?_) hBI_1
  refine And.elim (fun g_lB hBI_3 => ?_) hBI_2
  refine And.elim (fun g_lH hBI_4 => ?_) hBI_3
  refine And.elim (fun g_lK hBI_5 => ?_) hBI_4
  refine And.elim (fun g_gn hBI_6 => ?_) hBI_5
  refine And.elim (fun g_lG hBI_7 => ?_) hBI_6
  refine And.elim (fun g_lR hBI_8 => ?_) hBI_7
  refine And.elim (fun g_l1 hBI_9 => ?_) hBI_8
  refine And.elim (fun g_l2 hBI_10 => ?_) hBI_9
  refine And.elim (fun g_l3 hBI_11 => ?_) hBI_10
  refine And.elim (fun g_lq hBI_12 => ?_) hBI_11
  refine And.elim (fun g_lp hBI_13 => ?_) hBI_12
  refine And.elim (fun g_lv hBI_14 => ?_) hBI_13
  refine And.elim (fun g_ke hBI_15 => ?_) hBI_14
  refine And.elim (fun g_fsh hBI_16 => ?_) hBI_15
  refine And.elim (fun g_fm hBI_17 => ?_) hBI_16
  refine And.elim (fun g_lm hBI_18 => ?_) hBI_17
  refine And.elim (fun g_lw hBI_19 => ?_) hBI_18
  refine And.elim (fun g_zt hBI_20 => ?_) hBI_19
  refine And.elim (fun g_zp hBI_21 => ?_) hBI_20
  refine And.elim (fun g_zf hBI_22 => ?_) hBI_21
  refine And.elim (fun g_zh hBI_23 => ?_) hBI_22
  refine And.elim (fun g_zr hBI_24 => ?_) hBI_23
  refine And.elim (fun g_zc hBI_25 => ?_) hBI_24
  refine And.elim (fun g_zy hBI_26 => ?_) hBI_25
  refine And.elim (fun g_za hBI_27 => ?_) hBI_26
  refine And.elim (fun g_zb hBI_28 => ?_) hBI_27
  refine And.elim (fun g_zs hBI_29 => ?_) hBI_28
  refine And.elim (fun g_zq hBI_30 => ?_) hBI_29
  refine And.elim (fun g_zn hBI_31 => ?_) hBI_30
  refine And.elim (fun g_zm hBI_32 => ?_) hBI_31
  refine And.elim (fun g_zk hBI_33 => ?_) hBI_32
  refine And.elim (fun g_fG2 hBI_34 => ?_) hBI_33
  refine And.elim (fun g_eS hBI_35 => ?_) hBI_34
  refine And.elim (fun g_eX hBI_36 => ?_) hBI_35
  refine And.elim (fun g_eL hBI_37 => ?_) hBI_36
  refine And.elim (fun g_eB hBI_38 => ?_) hBI_37
  refine And.elim (fun g_e1 hBI_39 => ?_) hBI_38
  refine And.elim (fun g_e2 hBI_40 => ?_) hBI_39
  refine And.elim (fun g_eY hBI_41 => ?_) hBI_40
  refine And.elim (fun g_eE hBI_42 => ?_) hBI_41
  refine And.elim (fun g_eW hBI_43 => ?_) hBI_42
  refine And.elim (fun g_eO hBI_44 => ?_) hBI_43
  refine And.elim (fun g_eZ hBI_45 => ?_) hBI_44
  refine And.elim (fun hzn hBI_46 => ?_) hBI_45
  refine And.elim (fun hrel hBI_47 => ?_) hBI_46
  refine And.elim (fun hrc hBI_48 => ?_) hBI_47
  refine And.elim (fun hr4 hBI_49 => ?_) hBI_48
  refine And.elim (fun hr5 hBI_50 => ?_) hBI_49
  refine And.elim (fun hb4 hBI_51 => ?_) hBI_50
  refine And.elim (fun hb5 hBI_52 => ?_) hBI_51
  refine And.elim (fun hlz hBI_53 => ?_) hBI_52
  refine And.elim (fun hH hBI_54 => ?_) hBI_53
  refine And.elim (fun hHe hBI_55 => ?_) hBI_54
  refine And.elim (fun hKz hBI_56 => ?_) hBI_55
  refine And.elim (fun hT hBI_57 => ?_) hBI_56
  refine And.elim (fun ho hBI_58 => ?_) hBI_57
  refine And.elim (fun hal hBI_59 => ?_) hBI_58
  refine And.elim (fun hCV hBI_60 => ?_) hBI_59
  refine And.elim (fun hVk hBI_61 => ?_) hBI_60
  refine And.elim (fun hVr hBI_62 => ?_) hBI_61
  refine And.elim (fun hTX hBI_63 => ?_) hBI_62
  refine And.elim (fun hCH hBI_64 => ?_) hBI_63
  refine And.elim (fun hvc hBI_65 => ?_) hBI_64
  refine And.elim (fun hfr hBI_66 => ?_) hBI_65
  refine And.elim (fun hfx hBI_67 => ?_) hBI_66
  have hfs := hBI_67
  clear hI hBI_0 hBI_1 hBI_2 hBI_3 hBI_4 hBI_5 hBI_6 hBI_7 hBI_8 hBI_9 hBI_10 hBI_11 hBI_12 hBI_13 hBI_14 hBI_15 hBI_16 hBI_17 hBI_18 hBI_19 hBI_20 hBI_21 hBI_22 hBI_23 hBI_24 hBI_25 hBI_26 hBI_27 hBI_28 hBI_29 hBI_30 hBI_31 hBI_32 hBI_33 hBI_34 hBI_35 hBI_36 hBI_37 hBI_38 hBI_39 hBI_40 hBI_41 hBI_42 hBI_43 hBI_44 hBI_45 hBI_46 hBI_47 hBI_48 hBI_49 hBI_50 hBI_51 hBI_52 hBI_53 hBI_54 hBI_55 hBI_56 hBI_57 hBI_58 hBI_59 hBI_60 hBI_61 hBI_62 hBI_63 hBI_64 hBI_65 hBI_66 hBI_67
  have hK : va_K (dC, dI) vwCl [(cI, .int), (cS, .short)] s := hK3.sub [0, 1] rfl
  have hown : s.vm.findClass RL = some m.cls := hown
  have hts := hts0
  have hcf := k_cf hx hb hml hown hts
  have hi9 : 0 ≤ i.toInt ∧ i.toInt ≤ 3066 := by omega
  have hzs : zs.toInt ≤ 1000000 := by omega
  have hA : ∀ q : Nat, s.heap.size ≤ q → A q := fun q h => by rw [hAd]; exact h
  have hbA : ¬ A b := by rw [hAd]; exact Nat.not_le.mpr hbl
  have hP : va_P (dC, dI) vwCl [(oX, .inr (11, [.ref nT, .ref nL, .ref nM, .ref oC, .ref oP, .ref oH, .ref oK, .ref oG, .ref oR, .ref oQ, .ref oW, .int fa])), (nT, .inr (5, [.ref aT, .int lT])), (aT, .inl (cI, 900, .inl fT)), (nL, .inr (5, [.ref aL, .int lL])), (aL, .inl (cI, 300, .inl fL)), (nM, .inr (5, [.ref aM, .int lM])), (aM, .inl (cI, 300, .inl fM)), (oC, .inr (2, [.ref o4, .ref o5])), (o4, .inr (10, [.ref a41, .ref a42, .ref a43, .int l4])), (a41, .inl (cI, 256, .inl f41)), (a42, .inl (cI, 512, .inl f42)), (a43, .inl (cI, 512, .inl f43)), (o5, .inr (10, [.ref a51, .ref a52, .ref a53, .int l5])), (a51, .inl (cI, 256, .inl f51)), (a52, .inl (cI, 512, .inl f52)), (a53, .inl (cI, 512, .inl f53)), (oP, .inr (7, [.ref oC, .ref nB, .int ft])), (nB, .inr (5, [.ref aB, .int lB])), (aB, .inl (cI, 2400, .inl fB)), (oH, .inr (4, [.ref oP, .ref h1, .ref h2, .int lH])), (h1, .inl (cI, 6, .inl fH1)), (h2, .inl (cI, 6, .inl fH2)), (oK, .inr (3, [.ref k1, .ref k2, .int lK])), (k1, .inl (cI, 1024, .inl fK1)), (k2, .inl (cI, 1024, .inl fK2)), (oG, .inr (0, [.ref g1, .ref g2, .int gn, .int lG])), (g1, .inl (cI, 6000, .inl fG1)), (g2, .inl (cI, 20, .inl fG2)), (oR, .inr (9, [.ref oH, .ref oK, .ref n1, .ref n2, .ref n3, .ref r1, .ref r2, .ref r3, .ref r4, .ref r5, .ref r6, .int lR])), (n1, .inr (5, [.ref a1, .int l1])), (a1, .inl (cI, 300, .inl f1)), (n2, .inr (5, [.ref a2, .int l2])), (a2, .inl (cI, 300, .inl f2)), (n3, .inr (5, [.ref a3, .int l3])), (a3, .inl (cI, 300, .inl f3)), (r1, .inl (cI, 258, .inl fR1)), (r2, .inl (cI, 258, .inl fR2)), (r3, .inl (cI, 774, .inl fR3)), (r4, .inl (cI, 258, .inl fR4)), (r5, .inl (cI, 258, .inl fR5)), (r6, .inl (cI, 774, .inl fR6)), (oQ, .inr (6, [.ref oC, .ref oH, .ref oK, .ref oE, .ref nq, .ref np, .ref nv, .ref q1, .ref q2, .ref q3, .ref q4, .int pr])), (oE, .inr (8, [.ref oC, .ref oK, .int reE, .int laE, .int suE, .int leE])), (nq, .inr (5, [.ref aq, .int lq])), (aq, .inl (cI, 480, .inl fq)), (np, .inr (5, [.ref ap, .int lp])), (ap, .inl (cI, 300, .inl fp)), (nv, .inr (5, [.ref av, .int lv])), (av, .inl (cI, 300, .inl fv)), (q1, .inl (cI, 61, .inl fQ1)), (q2, .inl (cI, 61, .inl fQ2)), (q3, .inl (cI, 61, .inl fQ3)), (q4, .inl (cI, 61, .inl fQ4)), (oW, .inr (1, [.ref oC, .ref oK, .ref nw, .ref w1, .ref w2, .ref w3, .ref o7, .ref o8, .ref o9, .ref w4, .ref w5, .ref w6, .ref w7, .int ke, .int tl, .int fsh, .int wi, .int ri, .int fm, .int lm])), (nw, .inr (5, [.ref aw, .int lw])), (aw, .inl (cI, 800, .inl fw)), (o7, .inr (8, [.ref oC, .ref oK, .int re7, .int la7, .int su7, .int le7])), (o8, .inr (8, [.ref oC, .ref oK, .int re8, .int la8, .int su8, .int le8])), (o9, .inr (8, [.ref oC, .ref oK, .int re9, .int la9, .int su9, .int le9])), (w1, .inl (cI, 801, .inl fW1)), (w2, .inl (cI, 801, .inl fW2)), (w3, .inl (cI, 801, .inl fW3)), (w4, .inl (cI, 200, .inl fW4)), (w5, .inl (cI, 200, .inl fW5)), (w6, .inl (cI, 200, .inl fW6)), (w7, .inl (cI, 200, .inl fW7)), (oM, .inr (12, [.ref mT, .int zt, .ref mS, .ref mX, .int zp, .int zf, .ref mL, .ref mB, .ref mD, .ref m1, .ref m2, .int zh, .ref mR, .int zr, .ref x1, .ref x2, .ref x3, .int zc, .ref mH, .int zy, .int za, .int zb, .int zs, .int zq, .int zw, .int ze, .ref mY, .int zn, .ref mE, .int zm, .int zl, .ref mW, .int zk, .ref mO, .int zd, .ref y1, .ref y2, .ref y3, .ref y4, .ref mZ])), (mT, .inl (cI, 900, .inl eT)), (mS, .inl (cI, 21, .inl eS)), (mX, .inl (cI, 6300, .inl eX)), (mL, .inl (cI, 512, .inl eL)), (mB, .inl (cS, 131072, .inl eB)), (mD, .inl (cI, 2, .inl eD)), (m1, .inl (cI, 6, .inl e1)), (m2, .inl (cI, 6, .inl e2)), (mR, .inl (cI, 1548, .inl eR)), (x1, .inl (cI, 300, .inl ec1)), (x2, .inl (cI, 300, .inl ec2)), (x3, .inl (cI, 300, .inl ec3)), (mH, .inl (cI, 800, .inl eH)), (mY, .inl (cI, 2600, .inl eY)), (mE, .inl (cI, 2600, .inl eE)), (mW, .inl (cI, 300, .inl eW)), (mO, .inl (cI, 300, .inl eO)), (y1, .inl (cI, 61, .inl er1)), (y2, .inl (cI, 61, .inl er2)), (y3, .inl (cI, 61, .inl er3)), (y4, .inl (cI, 61, .inl er4)), (mZ, .inl (cI, 600, .inl eZ)), (oJ, .inl (cJ, 1, .inr (.inl fJ)))] H := hP
  have hD : va_D A [(oX, .inr (11, [.ref nT, .ref nL, .ref nM, .ref oC, .ref oP, .ref oH, .ref oK, .ref oG, .ref oR, .ref oQ, .ref oW, .int fa])), (nT, .inr (5, [.ref aT, .int lT])), (aT, .inl (cI, 900, .inl fT)), (nL, .inr (5, [.ref aL, .int lL])), (aL, .inl (cI, 300, .inl fL)), (nM, .inr (5, [.ref aM, .int lM])), (aM, .inl (cI, 300, .inl fM)), (oC, .inr (2, [.ref o4, .ref o5])), (o4, .inr (10, [.ref a41, .ref a42, .ref a43, .int l4])), (a41, .inl (cI, 256, .inl f41)), (a42, .inl (cI, 512, .inl f42)), (a43, .inl (cI, 512, .inl f43)), (o5, .inr (10, [.ref a51, .ref a52, .ref a53, .int l5])), (a51, .inl (cI, 256, .inl f51)), (a52, .inl (cI, 512, .inl f52)), (a53, .inl (cI, 512, .inl f53)), (oP, .inr (7, [.ref oC, .ref nB, .int ft])), (nB, .inr (5, [.ref aB, .int lB])), (aB, .inl (cI, 2400, .inl fB)), (oH, .inr (4, [.ref oP, .ref h1, .ref h2, .int lH])), (h1, .inl (cI, 6, .inl fH1)), (h2, .inl (cI, 6, .inl fH2)), (oK, .inr (3, [.ref k1, .ref k2, .int lK])), (k1, .inl (cI, 1024, .inl fK1)), (k2, .inl (cI, 1024, .inl fK2)), (oG, .inr (0, [.ref g1, .ref g2, .int gn, .int lG])), (g1, .inl (cI, 6000, .inl fG1)), (g2, .inl (cI, 20, .inl fG2)), (oR, .inr (9, [.ref oH, .ref oK, .ref n1, .ref n2, .ref n3, .ref r1, .ref r2, .ref r3, .ref r4, .ref r5, .ref r6, .int lR])), (n1, .inr (5, [.ref a1, .int l1])), (a1, .inl (cI, 300, .inl f1)), (n2, .inr (5, [.ref a2, .int l2])), (a2, .inl (cI, 300, .inl f2)), (n3, .inr (5, [.ref a3, .int l3])), (a3, .inl (cI, 300, .inl f3)), (r1, .inl (cI, 258, .inl fR1)), (r2, .inl (cI, 258, .inl fR2)), (r3, .inl (cI, 774, .inl fR3)), (r4, .inl (cI, 258, .inl fR4)), (r5, .inl (cI, 258, .inl fR5)), (r6, .inl (cI, 774, .inl fR6)), (oQ, .inr (6, [.ref oC, .ref oH, .ref oK, .ref oE, .ref nq, .ref np, .ref nv, .ref q1, .ref q2, .ref q3, .ref q4, .int pr])), (oE, .inr (8, [.ref oC, .ref oK, .int reE, .int laE, .int suE, .int leE])), (nq, .inr (5, [.ref aq, .int lq])), (aq, .inl (cI, 480, .inl fq)), (np, .inr (5, [.ref ap, .int lp])), (ap, .inl (cI, 300, .inl fp)), (nv, .inr (5, [.ref av, .int lv])), (av, .inl (cI, 300, .inl fv)), (q1, .inl (cI, 61, .inl fQ1)), (q2, .inl (cI, 61, .inl fQ2)), (q3, .inl (cI, 61, .inl fQ3)), (q4, .inl (cI, 61, .inl fQ4)), (oW, .inr (1, [.ref oC, .ref oK, .ref nw, .ref w1, .ref w2, .ref w3, .ref o7, .ref o8, .ref o9, .ref w4, .ref w5, .ref w6, .ref w7, .int ke, .int tl, .int fsh, .int wi, .int ri, .int fm, .int lm])), (nw, .inr (5, [.ref aw, .int lw])), (aw, .inl (cI, 800, .inl fw)), (o7, .inr (8, [.ref oC, .ref oK, .int re7, .int la7, .int su7, .int le7])), (o8, .inr (8, [.ref oC, .ref oK, .int re8, .int la8, .int su8, .int le8])), (o9, .inr (8, [.ref oC, .ref oK, .int re9, .int la9, .int su9, .int le9])), (w1, .inl (cI, 801, .inl fW1)), (w2, .inl (cI, 801, .inl fW2)), (w3, .inl (cI, 801, .inl fW3)), (w4, .inl (cI, 200, .inl fW4)), (w5, .inl (cI, 200, .inl fW5)), (w6, .inl (cI, 200, .inl fW6)), (w7, .inl (cI, 200, .inl fW7)), (oM, .inr (12, [.ref mT, .int zt, .ref mS, .ref mX, .int zp, .int zf, .ref mL, .ref mB, .ref mD, .ref m1, .ref m2, .int zh, .ref mR, .int zr, .ref x1, .ref x2, .ref x3, .int zc, .ref mH, .int zy, .int za, .int zb, .int zs, .int zq, .int zw, .int ze, .ref mY, .int zn, .ref mE, .int zm, .int zl, .ref mW, .int zk, .ref mO, .int zd, .ref y1, .ref y2, .ref y3, .ref y4, .ref mZ])), (mT, .inl (cI, 900, .inl eT)), (mS, .inl (cI, 21, .inl eS)), (mX, .inl (cI, 6300, .inl eX)), (mL, .inl (cI, 512, .inl eL)), (mB, .inl (cS, 131072, .inl eB)), (mD, .inl (cI, 2, .inl eD)), (m1, .inl (cI, 6, .inl e1)), (m2, .inl (cI, 6, .inl e2)), (mR, .inl (cI, 1548, .inl eR)), (x1, .inl (cI, 300, .inl ec1)), (x2, .inl (cI, 300, .inl ec2)), (x3, .inl (cI, 300, .inl ec3)), (mH, .inl (cI, 800, .inl eH)), (mY, .inl (cI, 2600, .inl eY)), (mE, .inl (cI, 2600, .inl eE)), (mW, .inl (cI, 300, .inl eW)), (mO, .inl (cI, 300, .inl eO)), (y1, .inl (cI, 61, .inl er1)), (y2, .inl (cI, 61, .inl er2)), (y3, .inl (cI, 61, .inl er3)), (y4, .inl (cI, 61, .inl er4)), (mZ, .inl (cI, 600, .inl eZ)), (oJ, .inl (cJ, 1, .inr (.inl fJ)))] := hD
  replace g_lT := hid g_lT
  replace g_lM := hid g_lM
  replace g_lB := hid g_lB
  replace g_lR := hid g_lR
  replace g_l1 := hid g_l1
  replace g_l2 := hid g_l2
  replace g_l3 := hid g_l3
  replace g_lq := hid g_lq
  replace g_lp := hid g_lp
  replace g_lv := hid g_lv
  replace g_fm := hid g_fm
  replace g_lm := hid g_lm
  replace g_lw := hid g_lw
  replace g_zt := hid g_zt
  replace g_zr := hid g_zr
  replace g_zn := hid g_zn
  replace g_zm := hid g_zm
  replace g_zk := hid g_zk
  refine lv_aload_n hx hb dL_law_373 rfl (lv_at hl 1 rfl) ?_
  refine lv_aload_n hx hb dL_law_374 rfl (lv_at hl 0 rfl) ?_
  refine lv_iload hx hb dL_law_375 (lv_at hl 4 rfl) ?_
  refine lv_iconst (v := 1) hx hb dL_law_377 (by decide) ?_
  refine lv_iadd hx hb dL_law_378 ?_
  refine lv_topi (fun x_1 ex_1 => ?_)
  have tx_1 : x_1.toInt = i.toInt + 1 := v_addR (l2 := 1) (h2 := 1) ex_1 hi9 (by decide) (by decide) (by decide)
  refine va_sld hx hb hX hbl hbA hS (v_in (v_sld5 tx_1 hi (by decide))) dL_law_379 ?_
  refine lv_topi (fun x_2 ex_2 => ?_)
  by_cases cs_3 : x_2.toInt = 4
  · refine kV_i (rest := []) (q0 := 0) (ci := 11) hcf (f_blank_4 l dC dI cI cS H.size oX nT nL nM oC oP oH oK oG oR oQ oW o4 o5 a41 a42 a43 nw w1 w2 w3 o7 o8 o9 w4 w5 w6 w7 fa l4 f41 f43 ke tl fsh wi ri fm lm x_2 (g_ke) (g_fsh) (g_fm) (g_lm) (by omega)) kc_X11_blank gL_law_X11_blank rfl rfl rfl ⟨Nat.le_of_ble_eq_true rfl, Nat.le_of_ble_eq_true rfl⟩ kX_t hK hP hD hS hA (posT mk_12 0) (posF mk_12 0) (kC_of mk_12 rfl rfl) (by decide +kernel) rfl rfl rfl hl rfl (Nat.le_of_ble_eq_true rfl) dL_law_380 ⟨kfit1 hn (Nat.le_of_ble_eq_true rfl), ksix1 hn (Nat.le_of_ble_eq_true rfl)⟩ (fun r_4 H locs hB hJ hSn => ?_)
    refine Exists.elim hB (fun fsh_4 hB4_0 => ?_)
    refine Exists.elim hB4_0 (fun l4_4 hB4_1 => ?_)
    refine Exists.elim hB4_1 (fun f41_4 hB4_2 => ?_)
    refine Exists.elim hB4_2 (fun f43_4 hB4_3 => ?_)
    refine And.elim (fun hPD9 hB4_4 => ?_) hB4_3
    refine And.elim (fun hf4_0 hB4_5 => ?_) hB4_4
    refine And.elim (fun hf4_1 hB4_6 => ?_) hB4_5
    refine And.elim (fun hf4_2 hB4_7 => ?_) hB4_6
    refine And.elim (fun hf4_3 hB4_8 => ?_) hB4_7
    refine And.elim (fun hf4_4 hB4_9 => ?_) hB4_8
    have hf4_5 := hB4_9
    clear hB hB4_0 hB4_1 hB4_2 hB4_3 hB4_4 hB4_5 hB4_6 hB4_7 hB4_8 hB4_9
    obtain ⟨hPn, hDn⟩ := kJi (m := mk_12) hJ rfl hPD9.1 hPD9.2 (wn := [(oX, .inr (11, [.ref nT, .ref nL, .ref nM, .ref oC, .ref oP, .ref oH, .ref oK, .ref oG, .ref oR, .ref oQ, .ref oW, .int fa])), (nT, .inr (5, [.ref aT, .int lT])), (aT, .inl (cI, 900, .inl fT)), (nL, .inr (5, [.ref aL, .int lL])), (aL, .inl (cI, 300, .inl fL)), (nM, .inr (5, [.ref aM, .int lM])), (aM, .inl (cI, 300, .inl fM)), (oC, .inr (2, [.ref o4, .ref o5])), (o4, .inr (10, [.ref a41, .ref a42, .ref a43, .int l4_4])), (a41, .inl (cI, 256, .inl f41_4)), (a42, .inl (cI, 512, .inl f42)), (a43, .inl (cI, 512, .inl f43_4)), (o5, .inr (10, [.ref a51, .ref a52, .ref a53, .int l5])), (a51, .inl (cI, 256, .inl f51)), (a52, .inl (cI, 512, .inl f52)), (a53, .inl (cI, 512, .inl f53)), (oP, .inr (7, [.ref oC, .ref nB, .int ft])), (nB, .inr (5, [.ref aB, .int lB])), (aB, .inl (cI, 2400, .inl fB)), (oH, .inr (4, [.ref oP, .ref h1, .ref h2, .int lH])), (h1, .inl (cI, 6, .inl fH1)), (h2, .inl (cI, 6, .inl fH2)), (oK, .inr (3, [.ref k1, .ref k2, .int lK])), (k1, .inl (cI, 1024, .inl fK1)), (k2, .inl (cI, 1024, .inl fK2)), (oG, .inr (0, [.ref g1, .ref g2, .int gn, .int lG])), (g1, .inl (cI, 6000, .inl fG1)), (g2, .inl (cI, 20, .inl fG2)), (oR, .inr (9, [.ref oH, .ref oK, .ref n1, .ref n2, .ref n3, .ref r1, .ref r2, .ref r3, .ref r4, .ref r5, .ref r6, .int lR])), (n1, .inr (5, [.ref a1, .int l1])), (a1, .inl (cI, 300, .inl f1)), (n2, .inr (5, [.ref a2, .int l2])), (a2, .inl (cI, 300, .inl f2)), (n3, .inr (5, [.ref a3, .int l3])), (a3, .inl (cI, 300, .inl f3)), (r1, .inl (cI, 258, .inl fR1)), (r2, .inl (cI, 258, .inl fR2)), (r3, .inl (cI, 774, .inl fR3)), (r4, .inl (cI, 258, .inl fR4)), (r5, .inl (cI, 258, .inl fR5)), (r6, .inl (cI, 774, .inl fR6)), (oQ, .inr (6, [.ref oC, .ref oH, .ref oK, .ref oE, .ref nq, .ref np, .ref nv, .ref q1, .ref q2, .ref q3, .ref q4, .int pr])), (oE, .inr (8, [.ref oC, .ref oK, .int reE, .int laE, .int suE, .int leE])), (nq, .inr (5, [.ref aq, .int lq])), (aq, .inl (cI, 480, .inl fq)), (np, .inr (5, [.ref ap, .int lp])), (ap, .inl (cI, 300, .inl fp)), (nv, .inr (5, [.ref av, .int lv])), (av, .inl (cI, 300, .inl fv)), (q1, .inl (cI, 61, .inl fQ1)), (q2, .inl (cI, 61, .inl fQ2)), (q3, .inl (cI, 61, .inl fQ3)), (q4, .inl (cI, 61, .inl fQ4)), (oW, .inr (1, [.ref oC, .ref oK, .ref nw, .ref w1, .ref w2, .ref w3, .ref o7, .ref o8, .ref o9, .ref w4, .ref w5, .ref w6, .ref w7, .int ke, .int tl, .int fsh_4, .int wi, .int ri, .int fm, .int lm])), (nw, .inr (5, [.ref aw, .int lw])), (aw, .inl (cI, 800, .inl fw)), (o7, .inr (8, [.ref oC, .ref oK, .int re7, .int la7, .int su7, .int le7])), (o8, .inr (8, [.ref oC, .ref oK, .int re8, .int la8, .int su8, .int le8])), (o9, .inr (8, [.ref oC, .ref oK, .int re9, .int la9, .int su9, .int le9])), (w1, .inl (cI, 801, .inl fW1)), (w2, .inl (cI, 801, .inl fW2)), (w3, .inl (cI, 801, .inl fW3)), (w4, .inl (cI, 200, .inl fW4)), (w5, .inl (cI, 200, .inl fW5)), (w6, .inl (cI, 200, .inl fW6)), (w7, .inl (cI, 200, .inl fW7)), (oM, .inr (12, [.ref mT, .int zt, .ref mS, .ref mX, .int zp, .int zf, .ref mL, .ref mB, .ref mD, .ref m1, .ref m2, .int zh, .ref mR, .int zr, .ref x1, .ref x2, .ref x3, .int zc, .ref mH, .int zy, .int za, .int zb, .int zs, .int zq, .int zw, .int ze, .ref mY, .int zn, .ref mE, .int zm, .int zl, .ref mW, .int zk, .ref mO, .int zd, .ref y1, .ref y2, .ref y3, .ref y4, .ref mZ])), (mT, .inl (cI, 900, .inl eT)), (mS, .inl (cI, 21, .inl eS)), (mX, .inl (cI, 6300, .inl eX)), (mL, .inl (cI, 512, .inl eL)), (mB, .inl (cS, 131072, .inl eB)), (mD, .inl (cI, 2, .inl eD)), (m1, .inl (cI, 6, .inl e1)), (m2, .inl (cI, 6, .inl e2)), (mR, .inl (cI, 1548, .inl eR)), (x1, .inl (cI, 300, .inl ec1)), (x2, .inl (cI, 300, .inl ec2)), (x3, .inl (cI, 300, .inl ec3)), (mH, .inl (cI, 800, .inl eH)), (mY, .inl (cI, 2600, .inl eY)), (mE, .inl (cI, 2600, .inl eE)), (mW, .inl (cI, 300, .inl eW)), (mO, .inl (cI, 300, .inl eO)), (y1, .inl (cI, 61, .inl er1)), (y2, .inl (cI, 61, .inl er2)), (y3, .inl (cI, 61, .inl er3)), (y4, .inl (cI, 61, .inl er4)), (mZ, .inl (cI, 600, .inl eZ)), (oJ, .inl (cJ, 1, .inr (.inl fJ)))]) rfl
    clear hP hD hS hJ hPD9
    have hP := hPn
    have hD := hDn
    have hS := hSn
    clear hPn hDn hSn
    rw [hf4_1]
    refine lv_pop hx hb dL_law_383 rfl ?_
    refine lv_aload_n hx hb dL_law_384 rfl (lv_at hl 2 rfl) ?_
    refine lv_aload_n hx hb dL_law_385 rfl (lv_at hl 0 rfl) ?_
    refine lv_iload hx hb dL_law_386 (lv_at hl 4 rfl) ?_
    refine lv_iconst (v := 1) hx hb dL_law_388 (by decide) ?_
    refine lv_iadd hx hb dL_law_389 ?_
    refine lv_topi (fun x_5 ex_5 => ?_)
    have tx_5 : x_5.toInt = i.toInt + 1 := v_addR (l2 := 1) (h2 := 1) ex_5 hi9 (by decide) (by decide) (by decide)
    refine va_sld hx hb hX hbl hbA hS (v_in (v_sld5 tx_5 hi (by decide))) dL_law_390 ?_
    refine lv_topi (fun x_6 ex_6 => ?_)
    have es_6 : x_6 = x_2 := by rw [ex_6, ex_2, ex_5, ex_1]
    rw [es_6]
    refine kV_i (rest := []) (q0 := 0) (ci := 12) hcf (f_X12_blank l dC dI cI cS H.size oM mT mS mX mL mB mD m1 m2 mR x1 x2 x3 mH mY mE mW mO y1 y2 y3 y4 mZ zt zp zf zh zr zc zy za zb zs zq zw ze zn zm zl zk zd eL eB eD x_2 (g_zt) (g_zp) (g_zf) (g_zh) (g_zr) (g_zc) (g_zy) (g_za) (g_zb) (g_zs) (g_zq) (g_zn) (g_zm) (g_zk) (g_eL) (g_eB) (by omega)) kc_X12_blank gL_law_X12_blank rfl rfl rfl ⟨Nat.le_of_ble_eq_true rfl, Nat.le_of_ble_eq_true rfl⟩ kX_t hK hP hD hS hA (posT mk_9 0) (posF mk_9 0) (kC_of mk_9 rfl rfl) (by decide +kernel) rfl rfl rfl hl rfl (Nat.le_of_ble_eq_true rfl) dL_law_391 ⟨kfit2 hn (Nat.le_of_ble_eq_true rfl), ksix2 hn (Nat.le_of_ble_eq_true rfl)⟩ (fun r_7 H locs hB hJ hSn => ?_)
    refine Exists.elim hB (fun ze_7 hB7_0 => ?_)
    refine Exists.elim hB7_0 (fun eL_7 hB7_1 => ?_)
    refine Exists.elim hB7_1 (fun eB_7 hB7_2 => ?_)
    refine Exists.elim hB7_2 (fun eD_7 hB7_3 => ?_)
    refine Exists.elim hB7_3 (fun zs_7 hB7_4 => ?_)
    refine And.elim (fun hPD9 hB7_5 => ?_) hB7_4
    refine And.elim (fun hf7_0 hB7_6 => ?_) hB7_5
    refine And.elim (fun hf7_1 hB7_7 => ?_) hB7_6
    refine And.elim (fun hf7_2 hB7_8 => ?_) hB7_7
    refine And.elim (fun hf7_3 hB7_9 => ?_) hB7_8
    refine And.elim (fun hf7_4 hB7_10 => ?_) hB7_9
    refine And.elim (fun hf7_5 hB7_11 => ?_) hB7_10
    have hf7_6 := hB7_11
    clear hB hB7_0 hB7_1 hB7_2 hB7_3 hB7_4 hB7_5 hB7_6 hB7_7 hB7_8 hB7_9 hB7_10 hB7_11
    obtain ⟨hPn, hDn⟩ := kJi (m := mk_9) hJ rfl hPD9.1 hPD9.2 (wn := [(oX, .inr (11, [.ref nT, .ref nL, .ref nM, .ref oC, .ref oP, .ref oH, .ref oK, .ref oG, .ref oR, .ref oQ, .ref oW, .int fa])), (nT, .inr (5, [.ref aT, .int lT])), (aT, .inl (cI, 900, .inl fT)), (nL, .inr (5, [.ref aL, .int lL])), (aL, .inl (cI, 300, .inl fL)), (nM, .inr (5, [.ref aM, .int lM])), (aM, .inl (cI, 300, .inl fM)), (oC, .inr (2, [.ref o4, .ref o5])), (o4, .inr (10, [.ref a41, .ref a42, .ref a43, .int l4_4])), (a41, .inl (cI, 256, .inl f41_4)), (a42, .inl (cI, 512, .inl f42)), (a43, .inl (cI, 512, .inl f43_4)), (o5, .inr (10, [.ref a51, .ref a52, .ref a53, .int l5])), (a51, .inl (cI, 256, .inl f51)), (a52, .inl (cI, 512, .inl f52)), (a53, .inl (cI, 512, .inl f53)), (oP, .inr (7, [.ref oC, .ref nB, .int ft])), (nB, .inr (5, [.ref aB, .int lB])), (aB, .inl (cI, 2400, .inl fB)), (oH, .inr (4, [.ref oP, .ref h1, .ref h2, .int lH])), (h1, .inl (cI, 6, .inl fH1)), (h2, .inl (cI, 6, .inl fH2)), (oK, .inr (3, [.ref k1, .ref k2, .int lK])), (k1, .inl (cI, 1024, .inl fK1)), (k2, .inl (cI, 1024, .inl fK2)), (oG, .inr (0, [.ref g1, .ref g2, .int gn, .int lG])), (g1, .inl (cI, 6000, .inl fG1)), (g2, .inl (cI, 20, .inl fG2)), (oR, .inr (9, [.ref oH, .ref oK, .ref n1, .ref n2, .ref n3, .ref r1, .ref r2, .ref r3, .ref r4, .ref r5, .ref r6, .int lR])), (n1, .inr (5, [.ref a1, .int l1])), (a1, .inl (cI, 300, .inl f1)), (n2, .inr (5, [.ref a2, .int l2])), (a2, .inl (cI, 300, .inl f2)), (n3, .inr (5, [.ref a3, .int l3])), (a3, .inl (cI, 300, .inl f3)), (r1, .inl (cI, 258, .inl fR1)), (r2, .inl (cI, 258, .inl fR2)), (r3, .inl (cI, 774, .inl fR3)), (r4, .inl (cI, 258, .inl fR4)), (r5, .inl (cI, 258, .inl fR5)), (r6, .inl (cI, 774, .inl fR6)), (oQ, .inr (6, [.ref oC, .ref oH, .ref oK, .ref oE, .ref nq, .ref np, .ref nv, .ref q1, .ref q2, .ref q3, .ref q4, .int pr])), (oE, .inr (8, [.ref oC, .ref oK, .int reE, .int laE, .int suE, .int leE])), (nq, .inr (5, [.ref aq, .int lq])), (aq, .inl (cI, 480, .inl fq)), (np, .inr (5, [.ref ap, .int lp])), (ap, .inl (cI, 300, .inl fp)), (nv, .inr (5, [.ref av, .int lv])), (av, .inl (cI, 300, .inl fv)), (q1, .inl (cI, 61, .inl fQ1)), (q2, .inl (cI, 61, .inl fQ2)), (q3, .inl (cI, 61, .inl fQ3)), (q4, .inl (cI, 61, .inl fQ4)), (oW, .inr (1, [.ref oC, .ref oK, .ref nw, .ref w1, .ref w2, .ref w3, .ref o7, .ref o8, .ref o9, .ref w4, .ref w5, .ref w6, .ref w7, .int ke, .int tl, .int fsh_4, .int wi, .int ri, .int fm, .int lm])), (nw, .inr (5, [.ref aw, .int lw])), (aw, .inl (cI, 800, .inl fw)), (o7, .inr (8, [.ref oC, .ref oK, .int re7, .int la7, .int su7, .int le7])), (o8, .inr (8, [.ref oC, .ref oK, .int re8, .int la8, .int su8, .int le8])), (o9, .inr (8, [.ref oC, .ref oK, .int re9, .int la9, .int su9, .int le9])), (w1, .inl (cI, 801, .inl fW1)), (w2, .inl (cI, 801, .inl fW2)), (w3, .inl (cI, 801, .inl fW3)), (w4, .inl (cI, 200, .inl fW4)), (w5, .inl (cI, 200, .inl fW5)), (w6, .inl (cI, 200, .inl fW6)), (w7, .inl (cI, 200, .inl fW7)), (oM, .inr (12, [.ref mT, .int zt, .ref mS, .ref mX, .int zp, .int zf, .ref mL, .ref mB, .ref mD, .ref m1, .ref m2, .int zh, .ref mR, .int zr, .ref x1, .ref x2, .ref x3, .int zc, .ref mH, .int zy, .int za, .int zb, .int zs_7, .int zq, .int zw, .int ze_7, .ref mY, .int zn, .ref mE, .int zm, .int zl, .ref mW, .int zk, .ref mO, .int zd, .ref y1, .ref y2, .ref y3, .ref y4, .ref mZ])), (mT, .inl (cI, 900, .inl eT)), (mS, .inl (cI, 21, .inl eS)), (mX, .inl (cI, 6300, .inl eX)), (mL, .inl (cI, 512, .inl eL_7)), (mB, .inl (cS, 131072, .inl eB_7)), (mD, .inl (cI, 2, .inl eD_7)), (m1, .inl (cI, 6, .inl e1)), (m2, .inl (cI, 6, .inl e2)), (mR, .inl (cI, 1548, .inl eR)), (x1, .inl (cI, 300, .inl ec1)), (x2, .inl (cI, 300, .inl ec2)), (x3, .inl (cI, 300, .inl ec3)), (mH, .inl (cI, 800, .inl eH)), (mY, .inl (cI, 2600, .inl eY)), (mE, .inl (cI, 2600, .inl eE)), (mW, .inl (cI, 300, .inl eW)), (mO, .inl (cI, 300, .inl eO)), (y1, .inl (cI, 61, .inl er1)), (y2, .inl (cI, 61, .inl er2)), (y3, .inl (cI, 61, .inl er3)), (y4, .inl (cI, 61, .inl er4)), (mZ, .inl (cI, 600, .inl eZ)), (oJ, .inl (cJ, 1, .inr (.inl fJ)))]) rfl
    clear hP hD hS hJ hPD9
    have hP := hPn
    have hD := hDn
    have hS := hSn
    clear hPn hDn hSn
    refine lv_pop hx hb dL_law_394 rfl ?_
    refine lv_goto (tgt := 1022) hx hb dL_law_395 (by decide) ?_
    have hdf : DFr fsh fsh_4 zs zs_7 := d_0 hf4_5 (zs_1 hf7_6 (by omega))
    refine W.widen (k := 90 + (nc + 1)) (n := 172225 + 6 * (nc + 1)) (by omega) (by omega) ?_
    exact kk fa lT lL lM l4_4 l5 ft lB lH lK gn lG lR l1 l2 l3 pr reE laE suE leE lq lp lv ke tl fsh_4 wi ri fm lm lw re7 la7 su7 le7 re8 la8 su8 le8 re9 la9 su9 le9 zt zp zf zh zr zc zy za zb zs_7 zq zw ze_7 zn zm zl zk zd fT fL fM f41_4 f42 f43_4 f51 f52 f53 fB fH1 fH2 fK1 fK2 fG1 fG2 f1 f2 f3 fR1 fR2 fR3 fR4 fR5 fR6 fq fp fv fQ1 fQ2 fQ3 fQ4 fw fW1 fW2 fW3 fW4 fW5 fW6 fW7 eT eS eX eL_7 eB_7 eD_7 e1 e2 eR ec1 ec2 ec3 eH eY eE eW eO er1 er2 er3 er4 eZ fJ _ _ _ ⟨g_lT, g_lL, g_lM, g_lB, g_lH, g_lK, g_gn, g_lG, g_lR, g_l1, g_l2, g_l3, g_lq, g_lp, g_lv, g_ke, hf4_0, g_fm, g_lm, g_lw, g_zt, g_zp, g_zf, g_zh, g_zr, g_zc, g_zy, g_za, g_zb, hf7_2, g_zq, g_zn, g_zm, g_zk, g_fG2, g_eS, g_eX, hf7_0, hf7_1, g_e1, g_e2, g_eY, g_eE, g_eW, g_eO, g_eZ, by omega, hrel, hrc, blank_eq (by decide) (by omega) hf4_2 hf4_3 hf4_4 hf7_5, blank_other (by decide) (by omega) hr5 hf7_5, LB_blank (by decide) hb4 hf7_5, LB_blank (by decide) hb5 hf7_5, LZ_blank hlz hf7_5, hH, hHe, hKz, hT, ho, hal, hCV, hVk, hVr, hTX, hCH, hvc, fr_d hfr hdf, fx_d hfx hdf, frs_bl hfs hfr hf7_5 hf7_6 (by omega)⟩ hP hD hS (lv_sub hl [0, 1, 2, 3, 4] rfl)
  · skip
    by_cases cs_8 : x_2.toInt = 5
    · refine kV_i (rest := []) (q0 := 0) (ci := 11) hcf (f_blank_5 l dC dI cI cS H.size oX nT nL nM oC oP oH oK oG oR oQ oW o4 o5 a51 a52 a53 nw w1 w2 w3 o7 o8 o9 w4 w5 w6 w7 fa l5 f51 f53 ke tl fsh wi ri fm lm x_2 (g_ke) (g_fsh) (g_fm) (g_lm) (by omega)) kc_X11_blank gL_law_X11_blank rfl rfl rfl ⟨Nat.le_of_ble_eq_true rfl, Nat.le_of_ble_eq_true rfl⟩ kX_t hK hP hD hS hA (posT mk_13 0) (posF mk_13 0) (kC_of mk_13 rfl rfl) (by decide +kernel) rfl rfl rfl hl rfl (Nat.le_of_ble_eq_true rfl) dL_law_380 ⟨kfit1 hn (Nat.le_of_ble_eq_true rfl), ksix1 hn (Nat.le_of_ble_eq_true rfl)⟩ (fun r_9 H locs hB hJ hSn => ?_)
      refine Exists.elim hB (fun fsh_9 hB9_0 => ?_)
      refine Exists.elim hB9_0 (fun l5_9 hB9_1 => ?_)
      refine Exists.elim hB9_1 (fun f51_9 hB9_2 => ?_)
      refine Exists.elim hB9_2 (fun f53_9 hB9_3 => ?_)
      refine And.elim (fun hPD9 hB9_4 => ?_) hB9_3
      refine And.elim (fun hf9_0 hB9_5 => ?_) hB9_4
      refine And.elim (fun hf9_1 hB9_6 => ?_) hB9_5
      refine And.elim (fun hf9_2 hB9_7 => ?_) hB9_6
      refine And.elim (fun hf9_3 hB9_8 => ?_) hB9_7
      refine And.elim (fun hf9_4 hB9_9 => ?_) hB9_8
      have hf9_5 := hB9_9
      clear hB hB9_0 hB9_1 hB9_2 hB9_3 hB9_4 hB9_5 hB9_6 hB9_7 hB9_8 hB9_9
      obtain ⟨hPn, hDn⟩ := kJi (m := mk_13) hJ rfl hPD9.1 hPD9.2 (wn := [(oX, .inr (11, [.ref nT, .ref nL, .ref nM, .ref oC, .ref oP, .ref oH, .ref oK, .ref oG, .ref oR, .ref oQ, .ref oW, .int fa])), (nT, .inr (5, [.ref aT, .int lT])), (aT, .inl (cI, 900, .inl fT)), (nL, .inr (5, [.ref aL, .int lL])), (aL, .inl (cI, 300, .inl fL)), (nM, .inr (5, [.ref aM, .int lM])), (aM, .inl (cI, 300, .inl fM)), (oC, .inr (2, [.ref o4, .ref o5])), (o4, .inr (10, [.ref a41, .ref a42, .ref a43, .int l4])), (a41, .inl (cI, 256, .inl f41)), (a42, .inl (cI, 512, .inl f42)), (a43, .inl (cI, 512, .inl f43)), (o5, .inr (10, [.ref a51, .ref a52, .ref a53, .int l5_9])), (a51, .inl (cI, 256, .inl f51_9)), (a52, .inl (cI, 512, .inl f52)), (a53, .inl (cI, 512, .inl f53_9)), (oP, .inr (7, [.ref oC, .ref nB, .int ft])), (nB, .inr (5, [.ref aB, .int lB])), (aB, .inl (cI, 2400, .inl fB)), (oH, .inr (4, [.ref oP, .ref h1, .ref h2, .int lH])), (h1, .inl (cI, 6, .inl fH1)), (h2, .inl (cI, 6, .inl fH2)), (oK, .inr (3, [.ref k1, .ref k2, .int lK])), (k1, .inl (cI, 1024, .inl fK1)), (k2, .inl (cI, 1024, .inl fK2)), (oG, .inr (0, [.ref g1, .ref g2, .int gn, .int lG])), (g1, .inl (cI, 6000, .inl fG1)), (g2, .inl (cI, 20, .inl fG2)), (oR, .inr (9, [.ref oH, .ref oK, .ref n1, .ref n2, .ref n3, .ref r1, .ref r2, .ref r3, .ref r4, .ref r5, .ref r6, .int lR])), (n1, .inr (5, [.ref a1, .int l1])), (a1, .inl (cI, 300, .inl f1)), (n2, .inr (5, [.ref a2, .int l2])), (a2, .inl (cI, 300, .inl f2)), (n3, .inr (5, [.ref a3, .int l3])), (a3, .inl (cI, 300, .inl f3)), (r1, .inl (cI, 258, .inl fR1)), (r2, .inl (cI, 258, .inl fR2)), (r3, .inl (cI, 774, .inl fR3)), (r4, .inl (cI, 258, .inl fR4)), (r5, .inl (cI, 258, .inl fR5)), (r6, .inl (cI, 774, .inl fR6)), (oQ, .inr (6, [.ref oC, .ref oH, .ref oK, .ref oE, .ref nq, .ref np, .ref nv, .ref q1, .ref q2, .ref q3, .ref q4, .int pr])), (oE, .inr (8, [.ref oC, .ref oK, .int reE, .int laE, .int suE, .int leE])), (nq, .inr (5, [.ref aq, .int lq])), (aq, .inl (cI, 480, .inl fq)), (np, .inr (5, [.ref ap, .int lp])), (ap, .inl (cI, 300, .inl fp)), (nv, .inr (5, [.ref av, .int lv])), (av, .inl (cI, 300, .inl fv)), (q1, .inl (cI, 61, .inl fQ1)), (q2, .inl (cI, 61, .inl fQ2)), (q3, .inl (cI, 61, .inl fQ3)), (q4, .inl (cI, 61, .inl fQ4)), (oW, .inr (1, [.ref oC, .ref oK, .ref nw, .ref w1, .ref w2, .ref w3, .ref o7, .ref o8, .ref o9, .ref w4, .ref w5, .ref w6, .ref w7, .int ke, .int tl, .int fsh_9, .int wi, .int ri, .int fm, .int lm])), (nw, .inr (5, [.ref aw, .int lw])), (aw, .inl (cI, 800, .inl fw)), (o7, .inr (8, [.ref oC, .ref oK, .int re7, .int la7, .int su7, .int le7])), (o8, .inr (8, [.ref oC, .ref oK, .int re8, .int la8, .int su8, .int le8])), (o9, .inr (8, [.ref oC, .ref oK, .int re9, .int la9, .int su9, .int le9])), (w1, .inl (cI, 801, .inl fW1)), (w2, .inl (cI, 801, .inl fW2)), (w3, .inl (cI, 801, .inl fW3)), (w4, .inl (cI, 200, .inl fW4)), (w5, .inl (cI, 200, .inl fW5)), (w6, .inl (cI, 200, .inl fW6)), (w7, .inl (cI, 200, .inl fW7)), (oM, .inr (12, [.ref mT, .int zt, .ref mS, .ref mX, .int zp, .int zf, .ref mL, .ref mB, .ref mD, .ref m1, .ref m2, .int zh, .ref mR, .int zr, .ref x1, .ref x2, .ref x3, .int zc, .ref mH, .int zy, .int za, .int zb, .int zs, .int zq, .int zw, .int ze, .ref mY, .int zn, .ref mE, .int zm, .int zl, .ref mW, .int zk, .ref mO, .int zd, .ref y1, .ref y2, .ref y3, .ref y4, .ref mZ])), (mT, .inl (cI, 900, .inl eT)), (mS, .inl (cI, 21, .inl eS)), (mX, .inl (cI, 6300, .inl eX)), (mL, .inl (cI, 512, .inl eL)), (mB, .inl (cS, 131072, .inl eB)), (mD, .inl (cI, 2, .inl eD)), (m1, .inl (cI, 6, .inl e1)), (m2, .inl (cI, 6, .inl e2)), (mR, .inl (cI, 1548, .inl eR)), (x1, .inl (cI, 300, .inl ec1)), (x2, .inl (cI, 300, .inl ec2)), (x3, .inl (cI, 300, .inl ec3)), (mH, .inl (cI, 800, .inl eH)), (mY, .inl (cI, 2600, .inl eY)), (mE, .inl (cI, 2600, .inl eE)), (mW, .inl (cI, 300, .inl eW)), (mO, .inl (cI, 300, .inl eO)), (y1, .inl (cI, 61, .inl er1)), (y2, .inl (cI, 61, .inl er2)), (y3, .inl (cI, 61, .inl er3)), (y4, .inl (cI, 61, .inl er4)), (mZ, .inl (cI, 600, .inl eZ)), (oJ, .inl (cJ, 1, .inr (.inl fJ)))]) rfl
      clear hP hD hS hJ hPD9
      have hP := hPn
      have hD := hDn
      have hS := hSn
      clear hPn hDn hSn
      rw [hf9_1]
      refine lv_pop hx hb dL_law_383 rfl ?_
      refine lv_aload_n hx hb dL_law_384 rfl (lv_at hl 2 rfl) ?_
      refine lv_aload_n hx hb dL_law_385 rfl (lv_at hl 0 rfl) ?_
      refine lv_iload hx hb dL_law_386 (lv_at hl 4 rfl) ?_
      refine lv_iconst (v := 1) hx hb dL_law_388 (by decide) ?_
      refine lv_iadd hx hb dL_law_389 ?_
      refine lv_topi (fun x_10 ex_10 => ?_)
      have tx_10 : x_10.toInt = i.toInt + 1 := v_addR (l2 := 1) (h2 := 1) ex_10 hi9 (by decide) (by decide) (by decide)
      refine va_sld hx hb hX hbl hbA hS (v_in (v_sld5 tx_10 hi (by decide))) dL_law_390 ?_
      refine lv_topi (fun x_11 ex_11 => ?_)
      have es_11 : x_11 = x_2 := by rw [ex_11, ex_2, ex_10, ex_1]
      rw [es_11]
      refine kV_i (rest := []) (q0 := 0) (ci := 12) hcf (f_X12_blank l dC dI cI cS H.size oM mT mS mX mL mB mD m1 m2 mR x1 x2 x3 mH mY mE mW mO y1 y2 y3 y4 mZ zt zp zf zh zr zc zy za zb zs zq zw ze zn zm zl zk zd eL eB eD x_2 (g_zt) (g_zp) (g_zf) (g_zh) (g_zr) (g_zc) (g_zy) (g_za) (g_zb) (g_zs) (g_zq) (g_zn) (g_zm) (g_zk) (g_eL) (g_eB) (by omega)) kc_X12_blank gL_law_X12_blank rfl rfl rfl ⟨Nat.le_of_ble_eq_true rfl, Nat.le_of_ble_eq_true rfl⟩ kX_t hK hP hD hS hA (posT mk_9 0) (posF mk_9 0) (kC_of mk_9 rfl rfl) (by decide +kernel) rfl rfl rfl hl rfl (Nat.le_of_ble_eq_true rfl) dL_law_391 ⟨kfit2 hn (Nat.le_of_ble_eq_true rfl), ksix2 hn (Nat.le_of_ble_eq_true rfl)⟩ (fun r_12 H locs hB hJ hSn => ?_)
      refine Exists.elim hB (fun ze_12 hB12_0 => ?_)
      refine Exists.elim hB12_0 (fun eL_12 hB12_1 => ?_)
      refine Exists.elim hB12_1 (fun eB_12 hB12_2 => ?_)
      refine Exists.elim hB12_2 (fun eD_12 hB12_3 => ?_)
      refine Exists.elim hB12_3 (fun zs_12 hB12_4 => ?_)
      refine And.elim (fun hPD9 hB12_5 => ?_) hB12_4
      refine And.elim (fun hf12_0 hB12_6 => ?_) hB12_5
      refine And.elim (fun hf12_1 hB12_7 => ?_) hB12_6
      refine And.elim (fun hf12_2 hB12_8 => ?_) hB12_7
      refine And.elim (fun hf12_3 hB12_9 => ?_) hB12_8
      refine And.elim (fun hf12_4 hB12_10 => ?_) hB12_9
      refine And.elim (fun hf12_5 hB12_11 => ?_) hB12_10
      have hf12_6 := hB12_11
      clear hB hB12_0 hB12_1 hB12_2 hB12_3 hB12_4 hB12_5 hB12_6 hB12_7 hB12_8 hB12_9 hB12_10 hB12_11
      obtain ⟨hPn, hDn⟩ := kJi (m := mk_9) hJ rfl hPD9.1 hPD9.2 (wn := [(oX, .inr (11, [.ref nT, .ref nL, .ref nM, .ref oC, .ref oP, .ref oH, .ref oK, .ref oG, .ref oR, .ref oQ, .ref oW, .int fa])), (nT, .inr (5, [.ref aT, .int lT])), (aT, .inl (cI, 900, .inl fT)), (nL, .inr (5, [.ref aL, .int lL])), (aL, .inl (cI, 300, .inl fL)), (nM, .inr (5, [.ref aM, .int lM])), (aM, .inl (cI, 300, .inl fM)), (oC, .inr (2, [.ref o4, .ref o5])), (o4, .inr (10, [.ref a41, .ref a42, .ref a43, .int l4])), (a41, .inl (cI, 256, .inl f41)), (a42, .inl (cI, 512, .inl f42)), (a43, .inl (cI, 512, .inl f43)), (o5, .inr (10, [.ref a51, .ref a52, .ref a53, .int l5_9])), (a51, .inl (cI, 256, .inl f51_9)), (a52, .inl (cI, 512, .inl f52)), (a53, .inl (cI, 512, .inl f53_9)), (oP, .inr (7, [.ref oC, .ref nB, .int ft])), (nB, .inr (5, [.ref aB, .int lB])), (aB, .inl (cI, 2400, .inl fB)), (oH, .inr (4, [.ref oP, .ref h1, .ref h2, .int lH])), (h1, .inl (cI, 6, .inl fH1)), (h2, .inl (cI, 6, .inl fH2)), (oK, .inr (3, [.ref k1, .ref k2, .int lK])), (k1, .inl (cI, 1024, .inl fK1)), (k2, .inl (cI, 1024, .inl fK2)), (oG, .inr (0, [.ref g1, .ref g2, .int gn, .int lG])), (g1, .inl (cI, 6000, .inl fG1)), (g2, .inl (cI, 20, .inl fG2)), (oR, .inr (9, [.ref oH, .ref oK, .ref n1, .ref n2, .ref n3, .ref r1, .ref r2, .ref r3, .ref r4, .ref r5, .ref r6, .int lR])), (n1, .inr (5, [.ref a1, .int l1])), (a1, .inl (cI, 300, .inl f1)), (n2, .inr (5, [.ref a2, .int l2])), (a2, .inl (cI, 300, .inl f2)), (n3, .inr (5, [.ref a3, .int l3])), (a3, .inl (cI, 300, .inl f3)), (r1, .inl (cI, 258, .inl fR1)), (r2, .inl (cI, 258, .inl fR2)), (r3, .inl (cI, 774, .inl fR3)), (r4, .inl (cI, 258, .inl fR4)), (r5, .inl (cI, 258, .inl fR5)), (r6, .inl (cI, 774, .inl fR6)), (oQ, .inr (6, [.ref oC, .ref oH, .ref oK, .ref oE, .ref nq, .ref np, .ref nv, .ref q1, .ref q2, .ref q3, .ref q4, .int pr])), (oE, .inr (8, [.ref oC, .ref oK, .int reE, .int laE, .int suE, .int leE])), (nq, .inr (5, [.ref aq, .int lq])), (aq, .inl (cI, 480, .inl fq)), (np, .inr (5, [.ref ap, .int lp])), (ap, .inl (cI, 300, .inl fp)), (nv, .inr (5, [.ref av, .int lv])), (av, .inl (cI, 300, .inl fv)), (q1, .inl (cI, 61, .inl fQ1)), (q2, .inl (cI, 61, .inl fQ2)), (q3, .inl (cI, 61, .inl fQ3)), (q4, .inl (cI, 61, .inl fQ4)), (oW, .inr (1, [.ref oC, .ref oK, .ref nw, .ref w1, .ref w2, .ref w3, .ref o7, .ref o8, .ref o9, .ref w4, .ref w5, .ref w6, .ref w7, .int ke, .int tl, .int fsh_9, .int wi, .int ri, .int fm, .int lm])), (nw, .inr (5, [.ref aw, .int lw])), (aw, .inl (cI, 800, .inl fw)), (o7, .inr (8, [.ref oC, .ref oK, .int re7, .int la7, .int su7, .int le7])), (o8, .inr (8, [.ref oC, .ref oK, .int re8, .int la8, .int su8, .int le8])), (o9, .inr (8, [.ref oC, .ref oK, .int re9, .int la9, .int su9, .int le9])), (w1, .inl (cI, 801, .inl fW1)), (w2, .inl (cI, 801, .inl fW2)), (w3, .inl (cI, 801, .inl fW3)), (w4, .inl (cI, 200, .inl fW4)), (w5, .inl (cI, 200, .inl fW5)), (w6, .inl (cI, 200, .inl fW6)), (w7, .inl (cI, 200, .inl fW7)), (oM, .inr (12, [.ref mT, .int zt, .ref mS, .ref mX, .int zp, .int zf, .ref mL, .ref mB, .ref mD, .ref m1, .ref m2, .int zh, .ref mR, .int zr, .ref x1, .ref x2, .ref x3, .int zc, .ref mH, .int zy, .int za, .int zb, .int zs_12, .int zq, .int zw, .int ze_12, .ref mY, .int zn, .ref mE, .int zm, .int zl, .ref mW, .int zk, .ref mO, .int zd, .ref y1, .ref y2, .ref y3, .ref y4, .ref mZ])), (mT, .inl (cI, 900, .inl eT)), (mS, .inl (cI, 21, .inl eS)), (mX, .inl (cI, 6300, .inl eX)), (mL, .inl (cI, 512, .inl eL_12)), (mB, .inl (cS, 131072, .inl eB_12)), (mD, .inl (cI, 2, .inl eD_12)), (m1, .inl (cI, 6, .inl e1)), (m2, .inl (cI, 6, .inl e2)), (mR, .inl (cI, 1548, .inl eR)), (x1, .inl (cI, 300, .inl ec1)), (x2, .inl (cI, 300, .inl ec2)), (x3, .inl (cI, 300, .inl ec3)), (mH, .inl (cI, 800, .inl eH)), (mY, .inl (cI, 2600, .inl eY)), (mE, .inl (cI, 2600, .inl eE)), (mW, .inl (cI, 300, .inl eW)), (mO, .inl (cI, 300, .inl eO)), (y1, .inl (cI, 61, .inl er1)), (y2, .inl (cI, 61, .inl er2)), (y3, .inl (cI, 61, .inl er3)), (y4, .inl (cI, 61, .inl er4)), (mZ, .inl (cI, 600, .inl eZ)), (oJ, .inl (cJ, 1, .inr (.inl fJ)))]) rfl
      clear hP hD hS hJ hPD9
      have hP := hPn
      have hD := hDn
      have hS := hSn
      clear hPn hDn hSn
      refine lv_pop hx hb dL_law_394 rfl ?_
      refine lv_goto (tgt := 1022) hx hb dL_law_395 (by decide) ?_
      have hdf : DFr fsh fsh_9 zs zs_12 := d_0 hf9_5 (zs_1 hf12_6 (by omega))
      refine W.widen (k := 90 + (nc + 1)) (n := 172225 + 6 * (nc + 1)) (by omega) (by omega) ?_
      exact kk fa lT lL lM l4 l5_9 ft lB lH lK gn lG lR l1 l2 l3 pr reE laE suE leE lq lp lv ke tl fsh_9 wi ri fm lm lw re7 la7 su7 le7 re8 la8 su8 le8 re9 la9 su9 le9 zt zp zf zh zr zc zy za zb zs_12 zq zw ze_12 zn zm zl zk zd fT fL fM f41 f42 f43 f51_9 f52 f53_9 fB fH1 fH2 fK1 fK2 fG1 fG2 f1 f2 f3 fR1 fR2 fR3 fR4 fR5 fR6 fq fp fv fQ1 fQ2 fQ3 fQ4 fw fW1 fW2 fW3 fW4 fW5 fW6 fW7 eT eS eX eL_12 eB_12 eD_12 e1 e2 eR ec1 ec2 ec3 eH eY eE eW eO er1 er2 er3 er4 eZ fJ _ _ _ ⟨g_lT, g_lL, g_lM, g_lB, g_lH, g_lK, g_gn, g_lG, g_lR, g_l1, g_l2, g_l3, g_lq, g_lp, g_lv, g_ke, hf9_0, g_fm, g_lm, g_lw, g_zt, g_zp, g_zf, g_zh, g_zr, g_zc, g_zy, g_za, g_zb, hf12_2, g_zq, g_zn, g_zm, g_zk, g_fG2, g_eS, g_eX, hf12_0, hf12_1, g_e1, g_e2, g_eY, g_eE, g_eW, g_eO, g_eZ, by omega, hrel, hrc, blank_other (by decide) (by omega) hr4 hf12_5, blank_eq (by decide) (by omega) hf9_2 hf9_3 hf9_4 hf12_5, LB_blank (by decide) hb4 hf12_5, LB_blank (by decide) hb5 hf12_5, LZ_blank hlz hf12_5, hH, hHe, hKz, hT, ho, hal, hCV, hVk, hVr, hTX, hCH, hvc, fr_d hfr hdf, fx_d hfx hdf, frs_bl hfs hfr hf12_5 hf12_6 (by omega)⟩ hP hD hS (lv_sub hl [0, 1, 2, 3, 4] rfl)
    · skip
      refine kV_i (rest := []) (q0 := 0) (ci := 11) hcf (x_blank_n l dC dI cI cS H.size oX nT nL nM oC oP oH oK oG oR oQ oW o4 o5 fa x_2 (by omega) (by omega)) kc_X11_blank gL_law_X11_blank rfl rfl rfl ⟨Nat.le_of_ble_eq_true rfl, Nat.le_of_ble_eq_true rfl⟩ kX_t hK hP hD hS hA (posT mk_11 0) (posF mk_11 0) (kC_of mk_11 rfl rfl) (by decide +kernel) rfl rfl rfl hl rfl (Nat.le_of_ble_eq_true rfl) dL_law_380 ⟨kfit1 hn (Nat.le_of_ble_eq_true rfl), ksix1 hn (Nat.le_of_ble_eq_true rfl)⟩ (fun r_13 H locs hB hJ hSn => ?_)
      refine And.elim (fun hPD9 hB13_0 => ?_) hB
      have hf13_0 := hB13_0
      clear hB hB13_0
      obtain ⟨hPn, hDn⟩ := kJi (m := mk_11) hJ rfl hPD9.1 hPD9.2 (wn := [(oX, .inr (11, [.ref nT, .ref nL, .ref nM, .ref oC, .ref oP, .ref oH, .ref oK, .ref oG, .ref oR, .ref oQ, .ref oW, .int fa])), (nT, .inr (5, [.ref aT, .int lT])), (aT, .inl (cI, 900, .inl fT)), (nL, .inr (5, [.ref aL, .int lL])), (aL, .inl (cI, 300, .inl fL)), (nM, .inr (5, [.ref aM, .int lM])), (aM, .inl (cI, 300, .inl fM)), (oC, .inr (2, [.ref o4, .ref o5])), (o4, .inr (10, [.ref a41, .ref a42, .ref a43, .int l4])), (a41, .inl (cI, 256, .inl f41)), (a42, .inl (cI, 512, .inl f42)), (a43, .inl (cI, 512, .inl f43)), (o5, .inr (10, [.ref a51, .ref a52, .ref a53, .int l5])), (a51, .inl (cI, 256, .inl f51)), (a52, .inl (cI, 512, .inl f52)), (a53, .inl (cI, 512, .inl f53)), (oP, .inr (7, [.ref oC, .ref nB, .int ft])), (nB, .inr (5, [.ref aB, .int lB])), (aB, .inl (cI, 2400, .inl fB)), (oH, .inr (4, [.ref oP, .ref h1, .ref h2, .int lH])), (h1, .inl (cI, 6, .inl fH1)), (h2, .inl (cI, 6, .inl fH2)), (oK, .inr (3, [.ref k1, .ref k2, .int lK])), (k1, .inl (cI, 1024, .inl fK1)), (k2, .inl (cI, 1024, .inl fK2)), (oG, .inr (0, [.ref g1, .ref g2, .int gn, .int lG])), (g1, .inl (cI, 6000, .inl fG1)), (g2, .inl (cI, 20, .inl fG2)), (oR, .inr (9, [.ref oH, .ref oK, .ref n1, .ref n2, .ref n3, .ref r1, .ref r2, .ref r3, .ref r4, .ref r5, .ref r6, .int lR])), (n1, .inr (5, [.ref a1, .int l1])), (a1, .inl (cI, 300, .inl f1)), (n2, .inr (5, [.ref a2, .int l2])), (a2, .inl (cI, 300, .inl f2)), (n3, .inr (5, [.ref a3, .int l3])), (a3, .inl (cI, 300, .inl f3)), (r1, .inl (cI, 258, .inl fR1)), (r2, .inl (cI, 258, .inl fR2)), (r3, .inl (cI, 774, .inl fR3)), (r4, .inl (cI, 258, .inl fR4)), (r5, .inl (cI, 258, .inl fR5)), (r6, .inl (cI, 774, .inl fR6)), (oQ, .inr (6, [.ref oC, .ref oH, .ref oK, .ref oE, .ref nq, .ref np, .ref nv, .ref q1, .ref q2, .ref q3, .ref q4, .int pr])), (oE, .inr (8, [.ref oC, .ref oK, .int reE, .int laE, .int suE, .int leE])), (nq, .inr (5, [.ref aq, .int lq])), (aq, .inl (cI, 480, .inl fq)), (np, .inr (5, [.ref ap, .int lp])), (ap, .inl (cI, 300, .inl fp)), (nv, .inr (5, [.ref av, .int lv])), (av, .inl (cI, 300, .inl fv)), (q1, .inl (cI, 61, .inl fQ1)), (q2, .inl (cI, 61, .inl fQ2)), (q3, .inl (cI, 61, .inl fQ3)), (q4, .inl (cI, 61, .inl fQ4)), (oW, .inr (1, [.ref oC, .ref oK, .ref nw, .ref w1, .ref w2, .ref w3, .ref o7, .ref o8, .ref o9, .ref w4, .ref w5, .ref w6, .ref w7, .int ke, .int tl, .int fsh, .int wi, .int ri, .int fm, .int lm])), (nw, .inr (5, [.ref aw, .int lw])), (aw, .inl (cI, 800, .inl fw)), (o7, .inr (8, [.ref oC, .ref oK, .int re7, .int la7, .int su7, .int le7])), (o8, .inr (8, [.ref oC, .ref oK, .int re8, .int la8, .int su8, .int le8])), (o9, .inr (8, [.ref oC, .ref oK, .int re9, .int la9, .int su9, .int le9])), (w1, .inl (cI, 801, .inl fW1)), (w2, .inl (cI, 801, .inl fW2)), (w3, .inl (cI, 801, .inl fW3)), (w4, .inl (cI, 200, .inl fW4)), (w5, .inl (cI, 200, .inl fW5)), (w6, .inl (cI, 200, .inl fW6)), (w7, .inl (cI, 200, .inl fW7)), (oM, .inr (12, [.ref mT, .int zt, .ref mS, .ref mX, .int zp, .int zf, .ref mL, .ref mB, .ref mD, .ref m1, .ref m2, .int zh, .ref mR, .int zr, .ref x1, .ref x2, .ref x3, .int zc, .ref mH, .int zy, .int za, .int zb, .int zs, .int zq, .int zw, .int ze, .ref mY, .int zn, .ref mE, .int zm, .int zl, .ref mW, .int zk, .ref mO, .int zd, .ref y1, .ref y2, .ref y3, .ref y4, .ref mZ])), (mT, .inl (cI, 900, .inl eT)), (mS, .inl (cI, 21, .inl eS)), (mX, .inl (cI, 6300, .inl eX)), (mL, .inl (cI, 512, .inl eL)), (mB, .inl (cS, 131072, .inl eB)), (mD, .inl (cI, 2, .inl eD)), (m1, .inl (cI, 6, .inl e1)), (m2, .inl (cI, 6, .inl e2)), (mR, .inl (cI, 1548, .inl eR)), (x1, .inl (cI, 300, .inl ec1)), (x2, .inl (cI, 300, .inl ec2)), (x3, .inl (cI, 300, .inl ec3)), (mH, .inl (cI, 800, .inl eH)), (mY, .inl (cI, 2600, .inl eY)), (mE, .inl (cI, 2600, .inl eE)), (mW, .inl (cI, 300, .inl eW)), (mO, .inl (cI, 300, .inl eO)), (y1, .inl (cI, 61, .inl er1)), (y2, .inl (cI, 61, .inl er2)), (y3, .inl (cI, 61, .inl er3)), (y4, .inl (cI, 61, .inl er4)), (mZ, .inl (cI, 600, .inl eZ)), (oJ, .inl (cJ, 1, .inr (.inl fJ)))]) rfl
      clear hP hD hS hJ hPD9
      have hP := hPn
      have hD := hDn
      have hS := hSn
      clear hPn hDn hSn
      rw [hf13_0]
      refine lv_pop hx hb dL_law_383 rfl ?_
      refine lv_aload_n hx hb dL_law_384 rfl (lv_at hl 2 rfl) ?_
      refine lv_aload_n hx hb dL_law_385 rfl (lv_at hl 0 rfl) ?_
      refine lv_iload hx hb dL_law_386 (lv_at hl 4 rfl) ?_
      refine lv_iconst (v := 1) hx hb dL_law_388 (by decide) ?_
      refine lv_iadd hx hb dL_law_389 ?_
      refine lv_topi (fun x_14 ex_14 => ?_)
      have tx_14 : x_14.toInt = i.toInt + 1 := v_addR (l2 := 1) (h2 := 1) ex_14 hi9 (by decide) (by decide) (by decide)
      refine va_sld hx hb hX hbl hbA hS (v_in (v_sld5 tx_14 hi (by decide))) dL_law_390 ?_
      refine lv_topi (fun x_15 ex_15 => ?_)
      have es_15 : x_15 = x_2 := by rw [ex_15, ex_2, ex_14, ex_1]
      rw [es_15]
      refine kV_i (rest := []) (q0 := 0) (ci := 12) hcf (f_X12_blank l dC dI cI cS H.size oM mT mS mX mL mB mD m1 m2 mR x1 x2 x3 mH mY mE mW mO y1 y2 y3 y4 mZ zt zp zf zh zr zc zy za zb zs zq zw ze zn zm zl zk zd eL eB eD x_2 (g_zt) (g_zp) (g_zf) (g_zh) (g_zr) (g_zc) (g_zy) (g_za) (g_zb) (g_zs) (g_zq) (g_zn) (g_zm) (g_zk) (g_eL) (g_eB) (by omega)) kc_X12_blank gL_law_X12_blank rfl rfl rfl ⟨Nat.le_of_ble_eq_true rfl, Nat.le_of_ble_eq_true rfl⟩ kX_t hK hP hD hS hA (posT mk_9 0) (posF mk_9 0) (kC_of mk_9 rfl rfl) (by decide +kernel) rfl rfl rfl hl rfl (Nat.le_of_ble_eq_true rfl) dL_law_391 ⟨kfit2 hn (Nat.le_of_ble_eq_true rfl), ksix2 hn (Nat.le_of_ble_eq_true rfl)⟩ (fun r_16 H locs hB hJ hSn => ?_)
      refine Exists.elim hB (fun ze_16 hB16_0 => ?_)
      refine Exists.elim hB16_0 (fun eL_16 hB16_1 => ?_)
      refine Exists.elim hB16_1 (fun eB_16 hB16_2 => ?_)
      refine Exists.elim hB16_2 (fun eD_16 hB16_3 => ?_)
      refine Exists.elim hB16_3 (fun zs_16 hB16_4 => ?_)
      refine And.elim (fun hPD9 hB16_5 => ?_) hB16_4
      refine And.elim (fun hf16_0 hB16_6 => ?_) hB16_5
      refine And.elim (fun hf16_1 hB16_7 => ?_) hB16_6
      refine And.elim (fun hf16_2 hB16_8 => ?_) hB16_7
      refine And.elim (fun hf16_3 hB16_9 => ?_) hB16_8
      refine And.elim (fun hf16_4 hB16_10 => ?_) hB16_9
      refine And.elim (fun hf16_5 hB16_11 => ?_) hB16_10
      have hf16_6 := hB16_11
      clear hB hB16_0 hB16_1 hB16_2 hB16_3 hB16_4 hB16_5 hB16_6 hB16_7 hB16_8 hB16_9 hB16_10 hB16_11
      obtain ⟨hPn, hDn⟩ := kJi (m := mk_9) hJ rfl hPD9.1 hPD9.2 (wn := [(oX, .inr (11, [.ref nT, .ref nL, .ref nM, .ref oC, .ref oP, .ref oH, .ref oK, .ref oG, .ref oR, .ref oQ, .ref oW, .int fa])), (nT, .inr (5, [.ref aT, .int lT])), (aT, .inl (cI, 900, .inl fT)), (nL, .inr (5, [.ref aL, .int lL])), (aL, .inl (cI, 300, .inl fL)), (nM, .inr (5, [.ref aM, .int lM])), (aM, .inl (cI, 300, .inl fM)), (oC, .inr (2, [.ref o4, .ref o5])), (o4, .inr (10, [.ref a41, .ref a42, .ref a43, .int l4])), (a41, .inl (cI, 256, .inl f41)), (a42, .inl (cI, 512, .inl f42)), (a43, .inl (cI, 512, .inl f43)), (o5, .inr (10, [.ref a51, .ref a52, .ref a53, .int l5])), (a51, .inl (cI, 256, .inl f51)), (a52, .inl (cI, 512, .inl f52)), (a53, .inl (cI, 512, .inl f53)), (oP, .inr (7, [.ref oC, .ref nB, .int ft])), (nB, .inr (5, [.ref aB, .int lB])), (aB, .inl (cI, 2400, .inl fB)), (oH, .inr (4, [.ref oP, .ref h1, .ref h2, .int lH])), (h1, .inl (cI, 6, .inl fH1)), (h2, .inl (cI, 6, .inl fH2)), (oK, .inr (3, [.ref k1, .ref k2, .int lK])), (k1, .inl (cI, 1024, .inl fK1)), (k2, .inl (cI, 1024, .inl fK2)), (oG, .inr (0, [.ref g1, .ref g2, .int gn, .int lG])), (g1, .inl (cI, 6000, .inl fG1)), (g2, .inl (cI, 20, .inl fG2)), (oR, .inr (9, [.ref oH, .ref oK, .ref n1, .ref n2, .ref n3, .ref r1, .ref r2, .ref r3, .ref r4, .ref r5, .ref r6, .int lR])), (n1, .inr (5, [.ref a1, .int l1])), (a1, .inl (cI, 300, .inl f1)), (n2, .inr (5, [.ref a2, .int l2])), (a2, .inl (cI, 300, .inl f2)), (n3, .inr (5, [.ref a3, .int l3])), (a3, .inl (cI, 300, .inl f3)), (r1, .inl (cI, 258, .inl fR1)), (r2, .inl (cI, 258, .inl fR2)), (r3, .inl (cI, 774, .inl fR3)), (r4, .inl (cI, 258, .inl fR4)), (r5, .inl (cI, 258, .inl fR5)), (r6, .inl (cI, 774, .inl fR6)), (oQ, .inr (6, [.ref oC, .ref oH, .ref oK, .ref oE, .ref nq, .ref np, .ref nv, .ref q1, .ref q2, .ref q3, .ref q4, .int pr])), (oE, .inr (8, [.ref oC, .ref oK, .int reE, .int laE, .int suE, .int leE])), (nq, .inr (5, [.ref aq, .int lq])), (aq, .inl (cI, 480, .inl fq)), (np, .inr (5, [.ref ap, .int lp])), (ap, .inl (cI, 300, .inl fp)), (nv, .inr (5, [.ref av, .int lv])), (av, .inl (cI, 300, .inl fv)), (q1, .inl (cI, 61, .inl fQ1)), (q2, .inl (cI, 61, .inl fQ2)), (q3, .inl (cI, 61, .inl fQ3)), (q4, .inl (cI, 61, .inl fQ4)), (oW, .inr (1, [.ref oC, .ref oK, .ref nw, .ref w1, .ref w2, .ref w3, .ref o7, .ref o8, .ref o9, .ref w4, .ref w5, .ref w6, .ref w7, .int ke, .int tl, .int fsh, .int wi, .int ri, .int fm, .int lm])), (nw, .inr (5, [.ref aw, .int lw])), (aw, .inl (cI, 800, .inl fw)), (o7, .inr (8, [.ref oC, .ref oK, .int re7, .int la7, .int su7, .int le7])), (o8, .inr (8, [.ref oC, .ref oK, .int re8, .int la8, .int su8, .int le8])), (o9, .inr (8, [.ref oC, .ref oK, .int re9, .int la9, .int su9, .int le9])), (w1, .inl (cI, 801, .inl fW1)), (w2, .inl (cI, 801, .inl fW2)), (w3, .inl (cI, 801, .inl fW3)), (w4, .inl (cI, 200, .inl fW4)), (w5, .inl (cI, 200, .inl fW5)), (w6, .inl (cI, 200, .inl fW6)), (w7, .inl (cI, 200, .inl fW7)), (oM, .inr (12, [.ref mT, .int zt, .ref mS, .ref mX, .int zp, .int zf, .ref mL, .ref mB, .ref mD, .ref m1, .ref m2, .int zh, .ref mR, .int zr, .ref x1, .ref x2, .ref x3, .int zc, .ref mH, .int zy, .int za, .int zb, .int zs_16, .int zq, .int zw, .int ze_16, .ref mY, .int zn, .ref mE, .int zm, .int zl, .ref mW, .int zk, .ref mO, .int zd, .ref y1, .ref y2, .ref y3, .ref y4, .ref mZ])), (mT, .inl (cI, 900, .inl eT)), (mS, .inl (cI, 21, .inl eS)), (mX, .inl (cI, 6300, .inl eX)), (mL, .inl (cI, 512, .inl eL_16)), (mB, .inl (cS, 131072, .inl eB_16)), (mD, .inl (cI, 2, .inl eD_16)), (m1, .inl (cI, 6, .inl e1)), (m2, .inl (cI, 6, .inl e2)), (mR, .inl (cI, 1548, .inl eR)), (x1, .inl (cI, 300, .inl ec1)), (x2, .inl (cI, 300, .inl ec2)), (x3, .inl (cI, 300, .inl ec3)), (mH, .inl (cI, 800, .inl eH)), (mY, .inl (cI, 2600, .inl eY)), (mE, .inl (cI, 2600, .inl eE)), (mW, .inl (cI, 300, .inl eW)), (mO, .inl (cI, 300, .inl eO)), (y1, .inl (cI, 61, .inl er1)), (y2, .inl (cI, 61, .inl er2)), (y3, .inl (cI, 61, .inl er3)), (y4, .inl (cI, 61, .inl er4)), (mZ, .inl (cI, 600, .inl eZ)), (oJ, .inl (cJ, 1, .inr (.inl fJ)))]) rfl
      clear hP hD hS hJ hPD9
      have hP := hPn
      have hD := hDn
      have hS := hSn
      clear hPn hDn hSn
      refine lv_pop hx hb dL_law_394 rfl ?_
      refine lv_goto (tgt := 1022) hx hb dL_law_395 (by decide) ?_
      have hdf : DFr fsh fsh zs zs_16 := zs_0 hf16_6 (by omega)
      refine W.widen (k := 90 + (nc + 1)) (n := 172225 + 6 * (nc + 1)) (by omega) (by omega) ?_
      exact kk fa lT lL lM l4 l5 ft lB lH lK gn lG lR l1 l2 l3 pr reE laE suE leE lq lp lv ke tl fsh wi ri fm lm lw re7 la7 su7 le7 re8 la8 su8 le8 re9 la9 su9 le9 zt zp zf zh zr zc zy za zb zs_16 zq zw ze_16 zn zm zl zk zd fT fL fM f41 f42 f43 f51 f52 f53 fB fH1 fH2 fK1 fK2 fG1 fG2 f1 f2 f3 fR1 fR2 fR3 fR4 fR5 fR6 fq fp fv fQ1 fQ2 fQ3 fQ4 fw fW1 fW2 fW3 fW4 fW5 fW6 fW7 eT eS eX eL_16 eB_16 eD_16 e1 e2 eR ec1 ec2 ec3 eH eY eE eW eO er1 er2 er3 er4 eZ fJ _ _ _ ⟨g_lT, g_lL, g_lM, g_lB, g_lH, g_lK, g_gn, g_lG, g_lR, g_l1, g_l2, g_l3, g_lq, g_lp, g_lv, g_ke, g_fsh, g_fm, g_lm, g_lw, g_zt, g_zp, g_zf, g_zh, g_zr, g_zc, g_zy, g_za, g_zb, hf16_2, g_zq, g_zn, g_zm, g_zk, g_fG2, g_eS, g_eX, hf16_0, hf16_1, g_e1, g_e2, g_eY, g_eE, g_eW, g_eO, g_eZ, by omega, hrel, hrc, blank_other (by decide) (by omega) hr4 hf16_5, blank_other (by decide) (by omega) hr5 hf16_5, LB_blank (by decide) hb4 hf16_5, LB_blank (by decide) hb5 hf16_5, LZ_blank hlz hf16_5, hH, hHe, hKz, hT, ho, hal, hCV, hVk, hVr, hTX, hCH, hvc, fr_d hfr hdf, hfx, frs_bl hfs hfr hf16_5 hf16_6 (by omega)⟩ hP hD hS (lv_sub hl [0, 1, 2, 3, 4] rfl)

set_option maxHeartbeats 40000000 in
set_option maxRecDepth 100000 in
theorem law_count {p : Program} {l : Launch} {e : Env} {s : State} {m : MethodId} {below : List Frame} {meth : Method} {c : Code} {dC : Nat → ClassId} {dI : Nat → Nat → Nat} {cI cS cJ : ClassId} {A : Nat → Prop} {b L : Nat} {xs : Nat → Int32} (C0 : lw_At p s m meth c b L xs) (hAd : A = fun q : Nat => s.heap.size ≤ q) (hK3 : va_K (dC, dI) vwCl [(cI, .int), (cS, .short), (cJ, .long)] s) {oX nT aT nL aL nM aM oC o4 a41 a42 a43 o5 a51 a52 a53 oP nB aB oH h1 h2 oK k1 k2 oG g1 g2 oR n1 a1 n2 a2 n3 a3 r1 r2 r3 r4 r5 r6 oQ oE nq aq np ap nv av q1 q2 q3 q4 oW nw aw o7 o8 o9 w1 w2 w3 w4 w5 w6 w7 oM mT mS mX mL mB mD m1 m2 mR x1 x2 x3 mH mY mE mW mO y1 y2 y3 y4 mZ oJ : Nat} {fa : Int32} {lT : Int32} {lL : Int32} {lM : Int32} {l4 : Int32} {l5 : Int32} {ft : Int32} {lB : Int32} {lH : Int32} {lK : Int32} {gn : Int32} {lG : Int32} {lR : Int32} {l1 : Int32} {l2 : Int32} {l3 : Int32} {pr : Int32} {reE : Int32} {laE : Int32} {suE : Int32} {leE : Int32} {lq : Int32} {lp : Int32} {lv : Int32} {ke : Int32} {tl : Int32} {fsh : Int32} {wi : Int32} {ri : Int32} {fm : Int32} {lm : Int32} {lw : Int32} {re7 : Int32} {la7 : Int32} {su7 : Int32} {le7 : Int32} {re8 : Int32} {la8 : Int32} {su8 : Int32} {le8 : Int32} {re9 : Int32} {la9 : Int32} {su9 : Int32} {le9 : Int32} {zt : Int32} {zp : Int32} {zf : Int32} {zh : Int32} {zr : Int32} {zc : Int32} {zy : Int32} {za : Int32} {zb : Int32} {zs : Int32} {zq : Int32} {zw : Int32} {ze : Int32} {zn : Int32} {zm : Int32} {zl : Int32} {zk : Int32} {zd : Int32} {fT : Nat → Int32} {fL : Nat → Int32} {fM : Nat → Int32} {f41 : Nat → Int32} {f42 : Nat → Int32} {f43 : Nat → Int32} {f51 : Nat → Int32} {f52 : Nat → Int32} {f53 : Nat → Int32} {fB : Nat → Int32} {fH1 : Nat → Int32} {fH2 : Nat → Int32} {fK1 : Nat → Int32} {fK2 : Nat → Int32} {fG1 : Nat → Int32} {fG2 : Nat → Int32} {f1 : Nat → Int32} {f2 : Nat → Int32} {f3 : Nat → Int32} {fR1 : Nat → Int32} {fR2 : Nat → Int32} {fR3 : Nat → Int32} {fR4 : Nat → Int32} {fR5 : Nat → Int32} {fR6 : Nat → Int32} {fq : Nat → Int32} {fp : Nat → Int32} {fv : Nat → Int32} {fQ1 : Nat → Int32} {fQ2 : Nat → Int32} {fQ3 : Nat → Int32} {fQ4 : Nat → Int32} {fw : Nat → Int32} {fW1 : Nat → Int32} {fW2 : Nat → Int32} {fW3 : Nat → Int32} {fW4 : Nat → Int32} {fW5 : Nat → Int32} {fW6 : Nat → Int32} {fW7 : Nat → Int32} {eT : Nat → Int32} {eS : Nat → Int32} {eX : Nat → Int32} {eL : Nat → Int32} {eB : Nat → Int32} {eD : Nat → Int32} {e1 : Nat → Int32} {e2 : Nat → Int32} {eR : Nat → Int32} {ec1 : Nat → Int32} {ec2 : Nat → Int32} {ec3 : Nat → Int32} {eH : Nat → Int32} {eY : Nat → Int32} {eE : Nat → Int32} {eW : Nat → Int32} {eO : Nat → Int32} {er1 : Nat → Int32} {er2 : Nat → Int32} {er3 : Nat → Int32} {er4 : Nat → Int32} {eZ : Nat → Int32} {fJ : Nat → Int64} {H : Heap} {locs : List Loc} {ls : Array Slot} {i : Int32} {nc : Nat} (hn : nc ≤ 511) (hi : 0 ≤ i.toInt ∧ i.toInt + 5 < (L : Int)) (hL : L ≤ 3072) (hI : INV nc lT lL lM l4 l5 lB lH lK gn lG lR l1 l2 l3 lq lp lv ke fsh wi ri fm lm lw zt zp zf zh zr zc zy za zb zs zq zn zm zk fT fL f41 f42 f43 f51 f52 f53 fH1 fH2 fK1 fK2 fG1 fG2 fW4 fW5 fW6 fW7 eT eS eX eL eB eD e1 e2 ec1 ec2 ec3 eH eY eE eW eO eZ) (hP : va_P (dC, dI) vwCl (WLD cI cS cJ oX nT aT nL aL nM aM oC o4 a41 a42 a43 o5 a51 a52 a53 oP nB aB oH h1 h2 oK k1 k2 oG g1 g2 oR n1 a1 n2 a2 n3 a3 r1 r2 r3 r4 r5 r6 oQ oE nq aq np ap nv av q1 q2 q3 q4 oW nw aw o7 o8 o9 w1 w2 w3 w4 w5 w6 w7 oM mT mS mX mL mB mD m1 m2 mR x1 x2 x3 mH mY mE mW mO y1 y2 y3 y4 mZ oJ fa lT lL lM l4 l5 ft lB lH lK gn lG lR l1 l2 l3 pr reE laE suE leE lq lp lv ke tl fsh wi ri fm lm lw re7 la7 su7 le7 re8 la8 su8 le8 re9 la9 su9 le9 zt zp zf zh zr zc zy za zb zs zq zw ze zn zm zl zk zd fT fL fM f41 f42 f43 f51 f52 f53 fB fH1 fH2 fK1 fK2 fG1 fG2 f1 f2 f3 fR1 fR2 fR3 fR4 fR5 fR6 fq fp fv fQ1 fQ2 fQ3 fQ4 fw fW1 fW2 fW3 fW4 fW5 fW6 fW7 eT eS eX eL eB eD e1 e2 eR ec1 ec2 ec3 eH eY eE eW eO er1 er2 er3 er4 eZ fJ) H) (hD : va_D A (WLD cI cS cJ oX nT aT nL aL nM aM oC o4 a41 a42 a43 o5 a51 a52 a53 oP nB aB oH h1 h2 oK k1 k2 oG g1 g2 oR n1 a1 n2 a2 n3 a3 r1 r2 r3 r4 r5 r6 oQ oE nq aq np ap nv av q1 q2 q3 q4 oW nw aw o7 o8 o9 w1 w2 w3 w4 w5 w6 w7 oM mT mS mX mL mB mD m1 m2 mR x1 x2 x3 mH mY mE mW mO y1 y2 y3 y4 mZ oJ fa lT lL lM l4 l5 ft lB lH lK gn lG lR l1 l2 l3 pr reE laE suE leE lq lp lv ke tl fsh wi ri fm lm lw re7 la7 su7 le7 re8 la8 su8 le8 re9 la9 su9 le9 zt zp zf zh zr zc zy za zb zs zq zw ze zn zm zl zk zd fT fL fM f41 f42 f43 f51 f52 f53 fB fH1 fH2 fK1 fK2 fG1 fG2 f1 f2 f3 fR1 fR2 fR3 fR4 fR5 fR6 fq fp fv fQ1 fQ2 fQ3 fQ4 fw fW1 fW2 fW3 fW4 fW5 fW6 fW7 eT eS eX eL eB eD e1 e2 eR ec1 ec2 ec3 eH eY eE eW eO er1 er2 er3 er4 eZ fJ)) (hS : va_S A s.heap H locs) (hl : lv_has ls 7 [(0, .ref b), (1, .ref oX), (2, .ref oM), (3, .ref oJ), (4, .int i)]) (kk : KK p l e s m below meth c dC dI cI cS cJ A b oX nT aT nL aL nM aM oC o4 a41 a42 a43 o5 a51 a52 a53 oP nB aB oH h1 h2 oK k1 k2 oG g1 g2 oR n1 a1 n2 a2 n3 a3 r1 r2 r3 r4 r5 r6 oQ oE nq aq np ap nv av q1 q2 q3 q4 oW nw aw o7 o8 o9 w1 w2 w3 w4 w5 w6 w7 oM mT mS mX mL mB mD m1 m2 mR x1 x2 x3 mH mY mE mW mO y1 y2 y3 y4 mZ oJ i nc) : W p l e room_1 s m #[Value.ref b] below meth c H locs (90 + nc) (172225 + 6 * nc) (lw_Z below #[Value.ref b] s) (F0 m 398 ls []) := by
  refine And.elim (fun hx hBC_0 => ?_) C0
  refine And.elim (fun hb hBC_1 => ?_) hBC_0
  refine And.elim (fun hr hBC_2 => ?_) hBC_1
  refine And.elim (fun hml hBC_3 => ?_) hBC_2
  refine And.elim (fun hown hBC_4 => ?_) hBC_3
  refine And.elim (fun hts0 hBC_5 => ?_) hBC_4
  refine And.elim (fun hX hBC_6 => ?_) hBC_5
  refine And.elim (fun hbl hBC_7 => ?_) hBC_6
  refine And.elim (fun hlocks hBC_8 => ?_) hBC_7
  have hgv := hBC_8
  clear hBC_0 hBC_1 hBC_2 hBC_3 hBC_4 hBC_5 hBC_6 hBC_7 hBC_8
  refine And.elim (fun g_lT hBI_0 => ?_) hI
  refine And.elim (fun g_lL hBI_1 => ?_) hBI_0
  refine And.elim (fun g_lM hBI_2 => ?_) hBI_1
  refine And.elim (fun g_lB hBI_3 => ?_) hBI_2
  refine And.elim (fun g_lH hBI_4 => ?_) hBI_3
  refine And.elim (fun g_lK hBI_5 => ?_) hBI_4
  refine And.elim (fun g_gn hBI_6 => ?_) hBI_5
  refine And.elim (fun g_lG hBI_7 => ?_) hBI_6
  refine And.elim (fun g_lR hBI_8 => ?_) hBI_7
  refine And.elim (fun g_l1 hBI_9 => ?_) hBI_8
  refine And.elim (fun g_l2 hBI_10 => ?_) hBI_9
  refine And.elim (fun g_l3 hBI_11 => ?_) hBI_10
  refine And.elim (fun g_lq hBI_12 => ?_) hBI_11
  refine And.elim (fun g_lp hBI_13 => ?_) hBI_12
  refine And.elim (fun g_lv hBI_14 => ?_) hBI_13
  refine And.elim (fun g_ke hBI_15 => ?_) hBI_14
  refine And.elim (fun g_fsh hBI_16 => ?_) hBI_15
  refine And.elim (fun g_fm hBI_17 => ?_) hBI_16
  refine And.elim (fun g_lm hBI_18 => ?_) hBI_17
  refine And.elim (fun g_lw hBI_19 => ?_) hBI_18
  refine And.elim (fun g_zt hBI_20 => ?_) hBI_19
  refine And.elim (fun g_zp hBI_21 => ?_) hBI_20
  refine And.elim (fun g_zf hBI_22 => ?_) hBI_21
  refine And.elim (fun g_zh hBI_23 => ?_) hBI_22
  refine And.elim (fun g_zr hBI_24 => ?_) hBI_23
  refine And.elim (fun g_zc hBI_25 => ?_) hBI_24
  refine And.elim (fun g_zy hBI_26 => ?_) hBI_25
  refine And.elim (fun g_za hBI_27 => ?_) hBI_26
  refine And.elim (fun g_zb hBI_28 => ?_) hBI_27
  refine And.elim (fun g_zs hBI_29 => ?_) hBI_28
  refine And.elim (fun g_zq hBI_30 => ?_) hBI_29
  refine And.elim (fun g_zn hBI_31 => ?_) hBI_30
  refine And.elim (fun g_zm hBI_32 => ?_) hBI_31
  refine And.elim (fun g_zk hBI_33 => ?_) hBI_32
  refine And.elim (fun g_fG2 hBI_34 => ?_) hBI_33
  refine And.elim (fun g_eS hBI_35 => ?_) hBI_34
  refine And.elim (fun g_eX hBI_36 => ?_) hBI_35
  refine And.elim (fun g_eL hBI_37 => ?_) hBI_36
  refine And.elim (fun g_eB hBI_38 => ?_) hBI_37
  refine And.elim (fun g_e1 hBI_39 => ?_) hBI_38
  refine And.elim (fun g_e2 hBI_40 => ?_) hBI_39
  refine And.elim (fun g_eY hBI_41 => ?_) hBI_40
  refine And.elim (fun g_eE hBI_42 => ?_) hBI_41
  refine And.elim (fun g_eW hBI_43 => ?_) hBI_42
  refine And.elim (fun g_eO hBI_44 => ?_) hBI_43
  refine And.elim (fun g_eZ hBI_45 => ?_) hBI_44
  refine And.elim (fun hzn hBI_46 => ?_) hBI_45
  refine And.elim (fun hrel hBI_47 => ?_) hBI_46
  refine And.elim (fun hrc hBI_48 => ?_) hBI_47
  refine And.elim (fun hr4 hBI_49 => ?_) hBI_48
  refine And.elim (fun hr5 hBI_50 => ?_) hBI_49
  refine And.elim (fun hb4 hBI_51 => ?_) hBI_50
  refine And.elim (fun hb5 hBI_52 => ?_) hBI_51
  refine And.elim (fun hlz hBI_53 => ?_) hBI_52
  refine And.elim (fun hH hBI_54 => ?_) hBI_53
  refine And.elim (fun hHe hBI_55 => ?_) hBI_54
  refine And.elim (fun hKz hBI_56 => ?_) hBI_55
  refine And.elim (fun hT hBI_57 => ?_) hBI_56
  refine And.elim (fun ho hBI_58 => ?_) hBI_57
  refine And.elim (fun hal hBI_59 => ?_) hBI_58
  refine And.elim (fun hCV hBI_60 => ?_) hBI_59
  refine And.elim (fun hVk hBI_61 => ?_) hBI_60
  refine And.elim (fun hVr hBI_62 => ?_) hBI_61
  refine And.elim (fun hTX hBI_63 => ?_) hBI_62
  refine And.elim (fun hCH hBI_64 => ?_) hBI_63
  refine And.elim (fun hvc hBI_65 => ?_) hBI_64
  refine And.elim (fun hfr hBI_66 => ?_) hBI_65
  refine And.elim (fun hfx hBI_67 => ?_) hBI_66
  have hfs := hBI_67
  clear hI hBI_0 hBI_1 hBI_2 hBI_3 hBI_4 hBI_5 hBI_6 hBI_7 hBI_8 hBI_9 hBI_10 hBI_11 hBI_12 hBI_13 hBI_14 hBI_15 hBI_16 hBI_17 hBI_18 hBI_19 hBI_20 hBI_21 hBI_22 hBI_23 hBI_24 hBI_25 hBI_26 hBI_27 hBI_28 hBI_29 hBI_30 hBI_31 hBI_32 hBI_33 hBI_34 hBI_35 hBI_36 hBI_37 hBI_38 hBI_39 hBI_40 hBI_41 hBI_42 hBI_43 hBI_44 hBI_45 hBI_46 hBI_47 hBI_48 hBI_49 hBI_50 hBI_51 hBI_52 hBI_53 hBI_54 hBI_55 hBI_56 hBI_57 hBI_58 hBI_59 hBI_60 hBI_61 hBI_62 hBI_63 hBI_64 hBI_65 hBI_66 hBI_67
  have hK : va_K (dC, dI) vwCl [(cI, .int), (cS, .short)] s := hK3.sub [0, 1] rfl
  have hown : s.vm.findClass RL = some m.cls := hown
  have hts := hts0
  have hcf := k_cf hx hb hml hown hts
  have hi9 : 0 ≤ i.toInt ∧ i.toInt ≤ 3066 := by omega
  have hzs : zs.toInt ≤ 1000000 := by omega
  have hA : ∀ q : Nat, s.heap.size ≤ q → A q := fun q h => by rw [hAd]; exact h
  have hbA : ¬ A b := by rw [hAd]; exact Nat.not_le.mpr hbl
  have hP : va_P (dC, dI) vwCl [(oX, .inr (11, [.ref nT, .ref nL, .ref nM, .ref oC, .ref oP, .ref oH, .ref oK, .ref oG, .ref oR, .ref oQ, .ref oW, .int fa])), (nT, .inr (5, [.ref aT, .int lT])), (aT, .inl (cI, 900, .inl fT)), (nL, .inr (5, [.ref aL, .int lL])), (aL, .inl (cI, 300, .inl fL)), (nM, .inr (5, [.ref aM, .int lM])), (aM, .inl (cI, 300, .inl fM)), (oC, .inr (2, [.ref o4, .ref o5])), (o4, .inr (10, [.ref a41, .ref a42, .ref a43, .int l4])), (a41, .inl (cI, 256, .inl f41)), (a42, .inl (cI, 512, .inl f42)), (a43, .inl (cI, 512, .inl f43)), (o5, .inr (10, [.ref a51, .ref a52, .ref a53, .int l5])), (a51, .inl (cI, 256, .inl f51)), (a52, .inl (cI, 512, .inl f52)), (a53, .inl (cI, 512, .inl f53)), (oP, .inr (7, [.ref oC, .ref nB, .int ft])), (nB, .inr (5, [.ref aB, .int lB])), (aB, .inl (cI, 2400, .inl fB)), (oH, .inr (4, [.ref oP, .ref h1, .ref h2, .int lH])), (h1, .inl (cI, 6, .inl fH1)), (h2, .inl (cI, 6, .inl fH2)), (oK, .inr (3, [.ref k1, .ref k2, .int lK])), (k1, .inl (cI, 1024, .inl fK1)), (k2, .inl (cI, 1024, .inl fK2)), (oG, .inr (0, [.ref g1, .ref g2, .int gn, .int lG])), (g1, .inl (cI, 6000, .inl fG1)), (g2, .inl (cI, 20, .inl fG2)), (oR, .inr (9, [.ref oH, .ref oK, .ref n1, .ref n2, .ref n3, .ref r1, .ref r2, .ref r3, .ref r4, .ref r5, .ref r6, .int lR])), (n1, .inr (5, [.ref a1, .int l1])), (a1, .inl (cI, 300, .inl f1)), (n2, .inr (5, [.ref a2, .int l2])), (a2, .inl (cI, 300, .inl f2)), (n3, .inr (5, [.ref a3, .int l3])), (a3, .inl (cI, 300, .inl f3)), (r1, .inl (cI, 258, .inl fR1)), (r2, .inl (cI, 258, .inl fR2)), (r3, .inl (cI, 774, .inl fR3)), (r4, .inl (cI, 258, .inl fR4)), (r5, .inl (cI, 258, .inl fR5)), (r6, .inl (cI, 774, .inl fR6)), (oQ, .inr (6, [.ref oC, .ref oH, .ref oK, .ref oE, .ref nq, .ref np, .ref nv, .ref q1, .ref q2, .ref q3, .ref q4, .int pr])), (oE, .inr (8, [.ref oC, .ref oK, .int reE, .int laE, .int suE, .int leE])), (nq, .inr (5, [.ref aq, .int lq])), (aq, .inl (cI, 480, .inl fq)), (np, .inr (5, [.ref ap, .int lp])), (ap, .inl (cI, 300, .inl fp)), (nv, .inr (5, [.ref av, .int lv])), (av, .inl (cI, 300, .inl fv)), (q1, .inl (cI, 61, .inl fQ1)), (q2, .inl (cI, 61, .inl fQ2)), (q3, .inl (cI, 61, .inl fQ3)), (q4, .inl (cI, 61, .inl fQ4)), (oW, .inr (1, [.ref oC, .ref oK, .ref nw, .ref w1, .ref w2, .ref w3, .ref o7, .ref o8, .ref o9, .ref w4, .ref w5, .ref w6, .ref w7, .int ke, .int tl, .int fsh, .int wi, .int ri, .int fm, .int lm])), (nw, .inr (5, [.ref aw, .int lw])), (aw, .inl (cI, 800, .inl fw)), (o7, .inr (8, [.ref oC, .ref oK, .int re7, .int la7, .int su7, .int le7])), (o8, .inr (8, [.ref oC, .ref oK, .int re8, .int la8, .int su8, .int le8])), (o9, .inr (8, [.ref oC, .ref oK, .int re9, .int la9, .int su9, .int le9])), (w1, .inl (cI, 801, .inl fW1)), (w2, .inl (cI, 801, .inl fW2)), (w3, .inl (cI, 801, .inl fW3)), (w4, .inl (cI, 200, .inl fW4)), (w5, .inl (cI, 200, .inl fW5)), (w6, .inl (cI, 200, .inl fW6)), (w7, .inl (cI, 200, .inl fW7)), (oM, .inr (12, [.ref mT, .int zt, .ref mS, .ref mX, .int zp, .int zf, .ref mL, .ref mB, .ref mD, .ref m1, .ref m2, .int zh, .ref mR, .int zr, .ref x1, .ref x2, .ref x3, .int zc, .ref mH, .int zy, .int za, .int zb, .int zs, .int zq, .int zw, .int ze, .ref mY, .int zn, .ref mE, .int zm, .int zl, .ref mW, .int zk, .ref mO, .int zd, .ref y1, .ref y2, .ref y3, .ref y4, .ref mZ])), (mT, .inl (cI, 900, .inl eT)), (mS, .inl (cI, 21, .inl eS)), (mX, .inl (cI, 6300, .inl eX)), (mL, .inl (cI, 512, .inl eL)), (mB, .inl (cS, 131072, .inl eB)), (mD, .inl (cI, 2, .inl eD)), (m1, .inl (cI, 6, .inl e1)), (m2, .inl (cI, 6, .inl e2)), (mR, .inl (cI, 1548, .inl eR)), (x1, .inl (cI, 300, .inl ec1)), (x2, .inl (cI, 300, .inl ec2)), (x3, .inl (cI, 300, .inl ec3)), (mH, .inl (cI, 800, .inl eH)), (mY, .inl (cI, 2600, .inl eY)), (mE, .inl (cI, 2600, .inl eE)), (mW, .inl (cI, 300, .inl eW)), (mO, .inl (cI, 300, .inl eO)), (y1, .inl (cI, 61, .inl er1)), (y2, .inl (cI, 61, .inl er2)), (y3, .inl (cI, 61, .inl er3)), (y4, .inl (cI, 61, .inl er4)), (mZ, .inl (cI, 600, .inl eZ)), (oJ, .inl (cJ, 1, .inr (.inl fJ)))] H := hP
  have hD : va_D A [(oX, .inr (11, [.ref nT, .ref nL, .ref nM, .ref oC, .ref oP, .ref oH, .ref oK, .ref oG, .ref oR, .ref oQ, .ref oW, .int fa])), (nT, .inr (5, [.ref aT, .int lT])), (aT, .inl (cI, 900, .inl fT)), (nL, .inr (5, [.ref aL, .int lL])), (aL, .inl (cI, 300, .inl fL)), (nM, .inr (5, [.ref aM, .int lM])), (aM, .inl (cI, 300, .inl fM)), (oC, .inr (2, [.ref o4, .ref o5])), (o4, .inr (10, [.ref a41, .ref a42, .ref a43, .int l4])), (a41, .inl (cI, 256, .inl f41)), (a42, .inl (cI, 512, .inl f42)), (a43, .inl (cI, 512, .inl f43)), (o5, .inr (10, [.ref a51, .ref a52, .ref a53, .int l5])), (a51, .inl (cI, 256, .inl f51)), (a52, .inl (cI, 512, .inl f52)), (a53, .inl (cI, 512, .inl f53)), (oP, .inr (7, [.ref oC, .ref nB, .int ft])), (nB, .inr (5, [.ref aB, .int lB])), (aB, .inl (cI, 2400, .inl fB)), (oH, .inr (4, [.ref oP, .ref h1, .ref h2, .int lH])), (h1, .inl (cI, 6, .inl fH1)), (h2, .inl (cI, 6, .inl fH2)), (oK, .inr (3, [.ref k1, .ref k2, .int lK])), (k1, .inl (cI, 1024, .inl fK1)), (k2, .inl (cI, 1024, .inl fK2)), (oG, .inr (0, [.ref g1, .ref g2, .int gn, .int lG])), (g1, .inl (cI, 6000, .inl fG1)), (g2, .inl (cI, 20, .inl fG2)), (oR, .inr (9, [.ref oH, .ref oK, .ref n1, .ref n2, .ref n3, .ref r1, .ref r2, .ref r3, .ref r4, .ref r5, .ref r6, .int lR])), (n1, .inr (5, [.ref a1, .int l1])), (a1, .inl (cI, 300, .inl f1)), (n2, .inr (5, [.ref a2, .int l2])), (a2, .inl (cI, 300, .inl f2)), (n3, .inr (5, [.ref a3, .int l3])), (a3, .inl (cI, 300, .inl f3)), (r1, .inl (cI, 258, .inl fR1)), (r2, .inl (cI, 258, .inl fR2)), (r3, .inl (cI, 774, .inl fR3)), (r4, .inl (cI, 258, .inl fR4)), (r5, .inl (cI, 258, .inl fR5)), (r6, .inl (cI, 774, .inl fR6)), (oQ, .inr (6, [.ref oC, .ref oH, .ref oK, .ref oE, .ref nq, .ref np, .ref nv, .ref q1, .ref q2, .ref q3, .ref q4, .int pr])), (oE, .inr (8, [.ref oC, .ref oK, .int reE, .int laE, .int suE, .int leE])), (nq, .inr (5, [.ref aq, .int lq])), (aq, .inl (cI, 480, .inl fq)), (np, .inr (5, [.ref ap, .int lp])), (ap, .inl (cI, 300, .inl fp)), (nv, .inr (5, [.ref av, .int lv])), (av, .inl (cI, 300, .inl fv)), (q1, .inl (cI, 61, .inl fQ1)), (q2, .inl (cI, 61, .inl fQ2)), (q3, .inl (cI, 61, .inl fQ3)), (q4, .inl (cI, 61, .inl fQ4)), (oW, .inr (1, [.ref oC, .ref oK, .ref nw, .ref w1, .ref w2, .ref w3, .ref o7, .ref o8, .ref o9, .ref w4, .ref w5, .ref w6, .ref w7, .int ke, .int tl, .int fsh, .int wi, .int ri, .int fm, .int lm])), (nw, .inr (5, [.ref aw, .int lw])), (aw, .inl (cI, 800, .inl fw)), (o7, .inr (8, [.ref oC, .ref oK, .int re7, .int la7, .int su7, .int le7])), (o8, .inr (8, [.ref oC, .ref oK, .int re8, .int la8, .int su8, .int le8])), (o9, .inr (8, [.ref oC, .ref oK, .int re9, .int la9, .int su9, .int le9])), (w1, .inl (cI, 801, .inl fW1)), (w2, .inl (cI, 801, .inl fW2)), (w3, .inl (cI, 801, .inl fW3)), (w4, .inl (cI, 200, .inl fW4)), (w5, .inl (cI, 200, .inl fW5)), (w6, .inl (cI, 200, .inl fW6)), (w7, .inl (cI, 200, .inl fW7)), (oM, .inr (12, [.ref mT, .int zt, .ref mS, .ref mX, .int zp, .int zf, .ref mL, .ref mB, .ref mD, .ref m1, .ref m2, .int zh, .ref mR, .int zr, .ref x1, .ref x2, .ref x3, .int zc, .ref mH, .int zy, .int za, .int zb, .int zs, .int zq, .int zw, .int ze, .ref mY, .int zn, .ref mE, .int zm, .int zl, .ref mW, .int zk, .ref mO, .int zd, .ref y1, .ref y2, .ref y3, .ref y4, .ref mZ])), (mT, .inl (cI, 900, .inl eT)), (mS, .inl (cI, 21, .inl eS)), (mX, .inl (cI, 6300, .inl eX)), (mL, .inl (cI, 512, .inl eL)), (mB, .inl (cS, 131072, .inl eB)), (mD, .inl (cI, 2, .inl eD)), (m1, .inl (cI, 6, .inl e1)), (m2, .inl (cI, 6, .inl e2)), (mR, .inl (cI, 1548, .inl eR)), (x1, .inl (cI, 300, .inl ec1)), (x2, .inl (cI, 300, .inl ec2)), (x3, .inl (cI, 300, .inl ec3)), (mH, .inl (cI, 800, .inl eH)), (mY, .inl (cI, 2600, .inl eY)), (mE, .inl (cI, 2600, .inl eE)), (mW, .inl (cI, 300, .inl eW)), (mO, .inl (cI, 300, .inl eO)), (y1, .inl (cI, 61, .inl er1)), (y2, .inl (cI, 61, .inl er2)), (y3, .inl (cI, 61, .inl er3)), (y4, .inl (cI, 61, .inl er4)), (mZ, .inl (cI, 600, .inl eZ)), (oJ, .inl (cJ, 1, .inr (.inl fJ)))] := hD
  replace g_lT := hid g_lT
  replace g_lM := hid g_lM
  replace g_lB := hid g_lB
  replace g_lR := hid g_lR
  replace g_l1 := hid g_l1
  replace g_l2 := hid g_l2
  replace g_l3 := hid g_l3
  replace g_lq := hid g_lq
  replace g_lp := hid g_lp
  replace g_lv := hid g_lv
  replace g_fm := hid g_fm
  replace g_lm := hid g_lm
  replace g_lw := hid g_lw
  replace g_zt := hid g_zt
  replace g_zr := hid g_zr
  replace g_zn := hid g_zn
  replace g_zm := hid g_zm
  replace g_zk := hid g_zk
  refine lv_aload_n hx hb dL_law_398 rfl (lv_at hl 1 rfl) ?_
  refine lv_aload_n hx hb dL_law_399 rfl (lv_at hl 0 rfl) ?_
  refine lv_iload hx hb dL_law_400 (lv_at hl 4 rfl) ?_
  refine lv_iconst (v := 1) hx hb dL_law_402 (by decide) ?_
  refine lv_iadd hx hb dL_law_403 ?_
  refine lv_topi (fun x_1 ex_1 => ?_)
  have tx_1 : x_1.toInt = i.toInt + 1 := v_addR (l2 := 1) (h2 := 1) ex_1 hi9 (by decide) (by decide) (by decide)
  refine va_sld hx hb hX hbl hbA hS (v_in (v_sld5 tx_1 hi (by decide))) dL_law_404 ?_
  refine lv_topi (fun x_2 ex_2 => ?_)
  refine kV_i (rest := []) (q0 := 0) (ci := 11) hcf (x_count l dC dI cI cS H.size oX nT nL nM oC oP oH oK oG oR oQ oW aL aT h1 h2 g1 g2 k1 k2 o4 o5 a41 a42 a43 a51 a52 a53 fa lL fL lT lH gn lG lK l4 l5 x_2 (g_lL) (g_lT) (g_lH) (g_gn) (g_lG) (g_lK)) kc_X11_count gL_law_X11_count rfl rfl rfl ⟨Nat.le_of_ble_eq_true rfl, Nat.le_of_ble_eq_true rfl⟩ kX_t hK hP hD hS hA ([0, 2, 3, 1, 7, 9, 8, 4, 5, 6].filterMap (fun j => (posT mk_14 0)[j]?)) (posF mk_14 0) (kCp (ws := [(oX, .inr (11, [.ref nT, .ref nL, .ref nM, .ref oC, .ref oP, .ref oH, .ref oK, .ref oG, .ref oR, .ref oQ, .ref oW, .int fa])), (nT, .inr (5, [.ref aT, .int lT])), (nL, .inr (5, [.ref aL, .int lL])), (aL, .inl (cI, 300, .inl fL)), (oC, .inr (2, [.ref o4, .ref o5])), (o4, .inr (10, [.ref a41, .ref a42, .ref a43, .int l4])), (o5, .inr (10, [.ref a51, .ref a52, .ref a53, .int l5])), (oH, .inr (4, [.ref oP, .ref h1, .ref h2, .int lH])), (oK, .inr (3, [.ref k1, .ref k2, .int lK])), (oG, .inr (0, [.ref g1, .ref g2, .int gn, .int lG]))]) (kC_of mk_14 rfl rfl) rfl) (by decide +kernel) rfl rfl rfl hl rfl (Nat.le_of_ble_eq_true rfl) dL_law_405 ⟨kfit1 hn (Nat.le_of_ble_eq_true rfl), ksix1 hn (Nat.le_of_ble_eq_true rfl)⟩ (fun r_3 H locs hB hJ hSn => ?_)
  have hPD9 := hB
  clear hB
  obtain ⟨hPn, hDn⟩ := kJm (m := mk_14) hJ rfl hPD9.1 hPD9.2 [0, 3, 1, 2, 7, 8, 9, 4, 6, 5] (by decide +kernel) (ws := [(oX, .inr (11, [.ref nT, .ref nL, .ref nM, .ref oC, .ref oP, .ref oH, .ref oK, .ref oG, .ref oR, .ref oQ, .ref oW, .int fa])), (nT, .inr (5, [.ref aT, .int lT])), (nL, .inr (5, [.ref aL, .int lL])), (aL, .inl (cI, 300, .inl fL)), (oC, .inr (2, [.ref o4, .ref o5])), (o4, .inr (10, [.ref a41, .ref a42, .ref a43, .int l4])), (o5, .inr (10, [.ref a51, .ref a52, .ref a53, .int l5])), (oH, .inr (4, [.ref oP, .ref h1, .ref h2, .int lH])), (oK, .inr (3, [.ref k1, .ref k2, .int lK])), (oG, .inr (0, [.ref g1, .ref g2, .int gn, .int lG]))]) rfl (wn := [(oX, .inr (11, [.ref nT, .ref nL, .ref nM, .ref oC, .ref oP, .ref oH, .ref oK, .ref oG, .ref oR, .ref oQ, .ref oW, .int fa])), (nT, .inr (5, [.ref aT, .int lT])), (aT, .inl (cI, 900, .inl fT)), (nL, .inr (5, [.ref aL, .int lL])), (aL, .inl (cI, 300, .inl fL)), (nM, .inr (5, [.ref aM, .int lM])), (aM, .inl (cI, 300, .inl fM)), (oC, .inr (2, [.ref o4, .ref o5])), (o4, .inr (10, [.ref a41, .ref a42, .ref a43, .int l4])), (a41, .inl (cI, 256, .inl f41)), (a42, .inl (cI, 512, .inl f42)), (a43, .inl (cI, 512, .inl f43)), (o5, .inr (10, [.ref a51, .ref a52, .ref a53, .int l5])), (a51, .inl (cI, 256, .inl f51)), (a52, .inl (cI, 512, .inl f52)), (a53, .inl (cI, 512, .inl f53)), (oP, .inr (7, [.ref oC, .ref nB, .int ft])), (nB, .inr (5, [.ref aB, .int lB])), (aB, .inl (cI, 2400, .inl fB)), (oH, .inr (4, [.ref oP, .ref h1, .ref h2, .int lH])), (h1, .inl (cI, 6, .inl fH1)), (h2, .inl (cI, 6, .inl fH2)), (oK, .inr (3, [.ref k1, .ref k2, .int lK])), (k1, .inl (cI, 1024, .inl fK1)), (k2, .inl (cI, 1024, .inl fK2)), (oG, .inr (0, [.ref g1, .ref g2, .int gn, .int lG])), (g1, .inl (cI, 6000, .inl fG1)), (g2, .inl (cI, 20, .inl fG2)), (oR, .inr (9, [.ref oH, .ref oK, .ref n1, .ref n2, .ref n3, .ref r1, .ref r2, .ref r3, .ref r4, .ref r5, .ref r6, .int lR])), (n1, .inr (5, [.ref a1, .int l1])), (a1, .inl (cI, 300, .inl f1)), (n2, .inr (5, [.ref a2, .int l2])), (a2, .inl (cI, 300, .inl f2)), (n3, .inr (5, [.ref a3, .int l3])), (a3, .inl (cI, 300, .inl f3)), (r1, .inl (cI, 258, .inl fR1)), (r2, .inl (cI, 258, .inl fR2)), (r3, .inl (cI, 774, .inl fR3)), (r4, .inl (cI, 258, .inl fR4)), (r5, .inl (cI, 258, .inl fR5)), (r6, .inl (cI, 774, .inl fR6)), (oQ, .inr (6, [.ref oC, .ref oH, .ref oK, .ref oE, .ref nq, .ref np, .ref nv, .ref q1, .ref q2, .ref q3, .ref q4, .int pr])), (oE, .inr (8, [.ref oC, .ref oK, .int reE, .int laE, .int suE, .int leE])), (nq, .inr (5, [.ref aq, .int lq])), (aq, .inl (cI, 480, .inl fq)), (np, .inr (5, [.ref ap, .int lp])), (ap, .inl (cI, 300, .inl fp)), (nv, .inr (5, [.ref av, .int lv])), (av, .inl (cI, 300, .inl fv)), (q1, .inl (cI, 61, .inl fQ1)), (q2, .inl (cI, 61, .inl fQ2)), (q3, .inl (cI, 61, .inl fQ3)), (q4, .inl (cI, 61, .inl fQ4)), (oW, .inr (1, [.ref oC, .ref oK, .ref nw, .ref w1, .ref w2, .ref w3, .ref o7, .ref o8, .ref o9, .ref w4, .ref w5, .ref w6, .ref w7, .int ke, .int tl, .int fsh, .int wi, .int ri, .int fm, .int lm])), (nw, .inr (5, [.ref aw, .int lw])), (aw, .inl (cI, 800, .inl fw)), (o7, .inr (8, [.ref oC, .ref oK, .int re7, .int la7, .int su7, .int le7])), (o8, .inr (8, [.ref oC, .ref oK, .int re8, .int la8, .int su8, .int le8])), (o9, .inr (8, [.ref oC, .ref oK, .int re9, .int la9, .int su9, .int le9])), (w1, .inl (cI, 801, .inl fW1)), (w2, .inl (cI, 801, .inl fW2)), (w3, .inl (cI, 801, .inl fW3)), (w4, .inl (cI, 200, .inl fW4)), (w5, .inl (cI, 200, .inl fW5)), (w6, .inl (cI, 200, .inl fW6)), (w7, .inl (cI, 200, .inl fW7)), (oM, .inr (12, [.ref mT, .int zt, .ref mS, .ref mX, .int zp, .int zf, .ref mL, .ref mB, .ref mD, .ref m1, .ref m2, .int zh, .ref mR, .int zr, .ref x1, .ref x2, .ref x3, .int zc, .ref mH, .int zy, .int za, .int zb, .int zs, .int zq, .int zw, .int ze, .ref mY, .int zn, .ref mE, .int zm, .int zl, .ref mW, .int zk, .ref mO, .int zd, .ref y1, .ref y2, .ref y3, .ref y4, .ref mZ])), (mT, .inl (cI, 900, .inl eT)), (mS, .inl (cI, 21, .inl eS)), (mX, .inl (cI, 6300, .inl eX)), (mL, .inl (cI, 512, .inl eL)), (mB, .inl (cS, 131072, .inl eB)), (mD, .inl (cI, 2, .inl eD)), (m1, .inl (cI, 6, .inl e1)), (m2, .inl (cI, 6, .inl e2)), (mR, .inl (cI, 1548, .inl eR)), (x1, .inl (cI, 300, .inl ec1)), (x2, .inl (cI, 300, .inl ec2)), (x3, .inl (cI, 300, .inl ec3)), (mH, .inl (cI, 800, .inl eH)), (mY, .inl (cI, 2600, .inl eY)), (mE, .inl (cI, 2600, .inl eE)), (mW, .inl (cI, 300, .inl eW)), (mO, .inl (cI, 300, .inl eO)), (y1, .inl (cI, 61, .inl er1)), (y2, .inl (cI, 61, .inl er2)), (y3, .inl (cI, 61, .inl er3)), (y4, .inl (cI, 61, .inl er4)), (mZ, .inl (cI, 600, .inl eZ)), (oJ, .inl (cJ, 1, .inr (.inl fJ)))]) rfl
  clear hP hD hS hJ hPD9
  have hP := hPn
  have hD := hDn
  have hS := hSn
  clear hPn hDn hSn
  refine lv_pop hx hb dL_law_408 rfl ?_
  refine lv_aload_n hx hb dL_law_409 rfl (lv_at hl 2 rfl) ?_
  refine lv_aload_n hx hb dL_law_410 rfl (lv_at hl 0 rfl) ?_
  refine lv_iload hx hb dL_law_411 (lv_at hl 4 rfl) ?_
  refine lv_iconst (v := 1) hx hb dL_law_413 (by decide) ?_
  refine lv_iadd hx hb dL_law_414 ?_
  refine lv_topi (fun x_4 ex_4 => ?_)
  have tx_4 : x_4.toInt = i.toInt + 1 := v_addR (l2 := 1) (h2 := 1) ex_4 hi9 (by decide) (by decide) (by decide)
  refine va_sld hx hb hX hbl hbA hS (v_in (v_sld5 tx_4 hi (by decide))) dL_law_415 ?_
  refine lv_topi (fun x_5 ex_5 => ?_)
  have es_5 : x_5 = x_2 := by rw [ex_5, ex_2, ex_4, ex_1]
  rw [es_5]
  refine kV_i (rest := []) (q0 := 0) (ci := 12) hcf (y_count l dC dI cI cS H.size oM mT mS mX mL mB mD m1 m2 mR x1 x2 x3 mH mY mE mW mO y1 y2 y3 y4 mZ zt zp zf zh zr zc zy za zb zs zq zw ze zn zm zl zk zd eS eX eD x_2 (g_zt) (g_zp) (g_zf) (g_zh) (g_zr) (g_zc) (g_zy) (g_za) (g_zb) (g_zs) (g_zq) (g_zn) (g_zm) (g_zk) (g_eS) (g_eX) (by omega)) kc_X12_count gL_law_X12_count rfl rfl rfl ⟨Nat.le_of_ble_eq_true rfl, Nat.le_of_ble_eq_true rfl⟩ kX_t hK hP hD hS hA (posT mk_15 0) (posF mk_15 0) (kC_of mk_15 rfl rfl) (by decide +kernel) rfl rfl rfl hl rfl (Nat.le_of_ble_eq_true rfl) dL_law_416 ⟨kfit2 hn (Nat.le_of_ble_eq_true rfl), ksix2 hn (Nat.le_of_ble_eq_true rfl)⟩ (fun r_6 H locs hB hJ hSn => ?_)
  refine Exists.elim hB (fun ze_6 hB6_0 => ?_)
  have hPD9 := hB6_0
  clear hB hB6_0
  obtain ⟨hPn, hDn⟩ := kJi (m := mk_15) hJ rfl hPD9.1 hPD9.2 (wn := [(oX, .inr (11, [.ref nT, .ref nL, .ref nM, .ref oC, .ref oP, .ref oH, .ref oK, .ref oG, .ref oR, .ref oQ, .ref oW, .int fa])), (nT, .inr (5, [.ref aT, .int lT])), (aT, .inl (cI, 900, .inl fT)), (nL, .inr (5, [.ref aL, .int lL])), (aL, .inl (cI, 300, .inl fL)), (nM, .inr (5, [.ref aM, .int lM])), (aM, .inl (cI, 300, .inl fM)), (oC, .inr (2, [.ref o4, .ref o5])), (o4, .inr (10, [.ref a41, .ref a42, .ref a43, .int l4])), (a41, .inl (cI, 256, .inl f41)), (a42, .inl (cI, 512, .inl f42)), (a43, .inl (cI, 512, .inl f43)), (o5, .inr (10, [.ref a51, .ref a52, .ref a53, .int l5])), (a51, .inl (cI, 256, .inl f51)), (a52, .inl (cI, 512, .inl f52)), (a53, .inl (cI, 512, .inl f53)), (oP, .inr (7, [.ref oC, .ref nB, .int ft])), (nB, .inr (5, [.ref aB, .int lB])), (aB, .inl (cI, 2400, .inl fB)), (oH, .inr (4, [.ref oP, .ref h1, .ref h2, .int lH])), (h1, .inl (cI, 6, .inl fH1)), (h2, .inl (cI, 6, .inl fH2)), (oK, .inr (3, [.ref k1, .ref k2, .int lK])), (k1, .inl (cI, 1024, .inl fK1)), (k2, .inl (cI, 1024, .inl fK2)), (oG, .inr (0, [.ref g1, .ref g2, .int gn, .int lG])), (g1, .inl (cI, 6000, .inl fG1)), (g2, .inl (cI, 20, .inl fG2)), (oR, .inr (9, [.ref oH, .ref oK, .ref n1, .ref n2, .ref n3, .ref r1, .ref r2, .ref r3, .ref r4, .ref r5, .ref r6, .int lR])), (n1, .inr (5, [.ref a1, .int l1])), (a1, .inl (cI, 300, .inl f1)), (n2, .inr (5, [.ref a2, .int l2])), (a2, .inl (cI, 300, .inl f2)), (n3, .inr (5, [.ref a3, .int l3])), (a3, .inl (cI, 300, .inl f3)), (r1, .inl (cI, 258, .inl fR1)), (r2, .inl (cI, 258, .inl fR2)), (r3, .inl (cI, 774, .inl fR3)), (r4, .inl (cI, 258, .inl fR4)), (r5, .inl (cI, 258, .inl fR5)), (r6, .inl (cI, 774, .inl fR6)), (oQ, .inr (6, [.ref oC, .ref oH, .ref oK, .ref oE, .ref nq, .ref np, .ref nv, .ref q1, .ref q2, .ref q3, .ref q4, .int pr])), (oE, .inr (8, [.ref oC, .ref oK, .int reE, .int laE, .int suE, .int leE])), (nq, .inr (5, [.ref aq, .int lq])), (aq, .inl (cI, 480, .inl fq)), (np, .inr (5, [.ref ap, .int lp])), (ap, .inl (cI, 300, .inl fp)), (nv, .inr (5, [.ref av, .int lv])), (av, .inl (cI, 300, .inl fv)), (q1, .inl (cI, 61, .inl fQ1)), (q2, .inl (cI, 61, .inl fQ2)), (q3, .inl (cI, 61, .inl fQ3)), (q4, .inl (cI, 61, .inl fQ4)), (oW, .inr (1, [.ref oC, .ref oK, .ref nw, .ref w1, .ref w2, .ref w3, .ref o7, .ref o8, .ref o9, .ref w4, .ref w5, .ref w6, .ref w7, .int ke, .int tl, .int fsh, .int wi, .int ri, .int fm, .int lm])), (nw, .inr (5, [.ref aw, .int lw])), (aw, .inl (cI, 800, .inl fw)), (o7, .inr (8, [.ref oC, .ref oK, .int re7, .int la7, .int su7, .int le7])), (o8, .inr (8, [.ref oC, .ref oK, .int re8, .int la8, .int su8, .int le8])), (o9, .inr (8, [.ref oC, .ref oK, .int re9, .int la9, .int su9, .int le9])), (w1, .inl (cI, 801, .inl fW1)), (w2, .inl (cI, 801, .inl fW2)), (w3, .inl (cI, 801, .inl fW3)), (w4, .inl (cI, 200, .inl fW4)), (w5, .inl (cI, 200, .inl fW5)), (w6, .inl (cI, 200, .inl fW6)), (w7, .inl (cI, 200, .inl fW7)), (oM, .inr (12, [.ref mT, .int zt, .ref mS, .ref mX, .int zp, .int zf, .ref mL, .ref mB, .ref mD, .ref m1, .ref m2, .int zh, .ref mR, .int zr, .ref x1, .ref x2, .ref x3, .int zc, .ref mH, .int zy, .int za, .int zb, .int zs, .int zq, .int zw, .int ze_6, .ref mY, .int zn, .ref mE, .int zm, .int zl, .ref mW, .int zk, .ref mO, .int zd, .ref y1, .ref y2, .ref y3, .ref y4, .ref mZ])), (mT, .inl (cI, 900, .inl eT)), (mS, .inl (cI, 21, .inl eS)), (mX, .inl (cI, 6300, .inl eX)), (mL, .inl (cI, 512, .inl eL)), (mB, .inl (cS, 131072, .inl eB)), (mD, .inl (cI, 2, .inl eD)), (m1, .inl (cI, 6, .inl e1)), (m2, .inl (cI, 6, .inl e2)), (mR, .inl (cI, 1548, .inl eR)), (x1, .inl (cI, 300, .inl ec1)), (x2, .inl (cI, 300, .inl ec2)), (x3, .inl (cI, 300, .inl ec3)), (mH, .inl (cI, 800, .inl eH)), (mY, .inl (cI, 2600, .inl eY)), (mE, .inl (cI, 2600, .inl eE)), (mW, .inl (cI, 300, .inl eW)), (mO, .inl (cI, 300, .inl eO)), (y1, .inl (cI, 61, .inl er1)), (y2, .inl (cI, 61, .inl er2)), (y3, .inl (cI, 61, .inl er3)), (y4, .inl (cI, 61, .inl er4)), (mZ, .inl (cI, 600, .inl eZ)), (oJ, .inl (cJ, 1, .inr (.inl fJ)))]) rfl
  clear hP hD hS hJ hPD9
  have hP := hPn
  have hD := hDn
  have hS := hSn
  clear hPn hDn hSn
  refine lv_pop hx hb dL_law_419 rfl ?_
  refine lv_goto (tgt := 1022) hx hb dL_law_420 (by decide) ?_
  refine W.widen (k := 90 + (nc + 1)) (n := 172225 + 6 * (nc + 1)) (by omega) (by omega) ?_
  exact kk fa lT lL lM l4 l5 ft lB lH lK gn lG lR l1 l2 l3 pr reE laE suE leE lq lp lv ke tl fsh wi ri fm lm lw re7 la7 su7 le7 re8 la8 su8 le8 re9 la9 su9 le9 zt zp zf zh zr zc zy za zb zs zq zw ze_6 zn zm zl zk zd fT fL fM f41 f42 f43 f51 f52 f53 fB fH1 fH2 fK1 fK2 fG1 fG2 f1 f2 f3 fR1 fR2 fR3 fR4 fR5 fR6 fq fp fv fQ1 fQ2 fQ3 fQ4 fw fW1 fW2 fW3 fW4 fW5 fW6 fW7 eT eS eX eL eB eD e1 e2 eR ec1 ec2 ec3 eH eY eE eW eO er1 er2 er3 er4 eZ fJ _ _ _ ⟨g_lT, g_lL, g_lM, g_lB, g_lH, g_lK, g_gn, g_lG, g_lR, g_l1, g_l2, g_l3, g_lq, g_lp, g_lv, g_ke, g_fsh, g_fm, g_lm, g_lw, g_zt, g_zp, g_zf, g_zh, g_zr, g_zc, g_zy, g_za, g_zb, g_zs, g_zq, g_zn, g_zm, g_zk, g_fG2, g_eS, g_eX, g_eL, g_eB, g_e1, g_e2, g_eY, g_eE, g_eW, g_eO, g_eZ, by omega, hrel, hrc, hr4, hr5, hb4, hb5, hlz, hH, hHe, hKz, hT, ho, hal, hCV, hVk, hVr, hTX, hCH, hvc, hfr, hfx, hfs⟩ hP hD hS (lv_sub hl [0, 1, 2, 3, 4] rfl)

set_option maxHeartbeats 40000000 in
set_option maxRecDepth 100000 in
theorem law_size {p : Program} {l : Launch} {e : Env} {s : State} {m : MethodId} {below : List Frame} {meth : Method} {c : Code} {dC : Nat → ClassId} {dI : Nat → Nat → Nat} {cI cS cJ : ClassId} {A : Nat → Prop} {b L : Nat} {xs : Nat → Int32} (C0 : lw_At p s m meth c b L xs) (hAd : A = fun q : Nat => s.heap.size ≤ q) (hK3 : va_K (dC, dI) vwCl [(cI, .int), (cS, .short), (cJ, .long)] s) {oX nT aT nL aL nM aM oC o4 a41 a42 a43 o5 a51 a52 a53 oP nB aB oH h1 h2 oK k1 k2 oG g1 g2 oR n1 a1 n2 a2 n3 a3 r1 r2 r3 r4 r5 r6 oQ oE nq aq np ap nv av q1 q2 q3 q4 oW nw aw o7 o8 o9 w1 w2 w3 w4 w5 w6 w7 oM mT mS mX mL mB mD m1 m2 mR x1 x2 x3 mH mY mE mW mO y1 y2 y3 y4 mZ oJ : Nat} {fa : Int32} {lT : Int32} {lL : Int32} {lM : Int32} {l4 : Int32} {l5 : Int32} {ft : Int32} {lB : Int32} {lH : Int32} {lK : Int32} {gn : Int32} {lG : Int32} {lR : Int32} {l1 : Int32} {l2 : Int32} {l3 : Int32} {pr : Int32} {reE : Int32} {laE : Int32} {suE : Int32} {leE : Int32} {lq : Int32} {lp : Int32} {lv : Int32} {ke : Int32} {tl : Int32} {fsh : Int32} {wi : Int32} {ri : Int32} {fm : Int32} {lm : Int32} {lw : Int32} {re7 : Int32} {la7 : Int32} {su7 : Int32} {le7 : Int32} {re8 : Int32} {la8 : Int32} {su8 : Int32} {le8 : Int32} {re9 : Int32} {la9 : Int32} {su9 : Int32} {le9 : Int32} {zt : Int32} {zp : Int32} {zf : Int32} {zh : Int32} {zr : Int32} {zc : Int32} {zy : Int32} {za : Int32} {zb : Int32} {zs : Int32} {zq : Int32} {zw : Int32} {ze : Int32} {zn : Int32} {zm : Int32} {zl : Int32} {zk : Int32} {zd : Int32} {fT : Nat → Int32} {fL : Nat → Int32} {fM : Nat → Int32} {f41 : Nat → Int32} {f42 : Nat → Int32} {f43 : Nat → Int32} {f51 : Nat → Int32} {f52 : Nat → Int32} {f53 : Nat → Int32} {fB : Nat → Int32} {fH1 : Nat → Int32} {fH2 : Nat → Int32} {fK1 : Nat → Int32} {fK2 : Nat → Int32} {fG1 : Nat → Int32} {fG2 : Nat → Int32} {f1 : Nat → Int32} {f2 : Nat → Int32} {f3 : Nat → Int32} {fR1 : Nat → Int32} {fR2 : Nat → Int32} {fR3 : Nat → Int32} {fR4 : Nat → Int32} {fR5 : Nat → Int32} {fR6 : Nat → Int32} {fq : Nat → Int32} {fp : Nat → Int32} {fv : Nat → Int32} {fQ1 : Nat → Int32} {fQ2 : Nat → Int32} {fQ3 : Nat → Int32} {fQ4 : Nat → Int32} {fw : Nat → Int32} {fW1 : Nat → Int32} {fW2 : Nat → Int32} {fW3 : Nat → Int32} {fW4 : Nat → Int32} {fW5 : Nat → Int32} {fW6 : Nat → Int32} {fW7 : Nat → Int32} {eT : Nat → Int32} {eS : Nat → Int32} {eX : Nat → Int32} {eL : Nat → Int32} {eB : Nat → Int32} {eD : Nat → Int32} {e1 : Nat → Int32} {e2 : Nat → Int32} {eR : Nat → Int32} {ec1 : Nat → Int32} {ec2 : Nat → Int32} {ec3 : Nat → Int32} {eH : Nat → Int32} {eY : Nat → Int32} {eE : Nat → Int32} {eW : Nat → Int32} {eO : Nat → Int32} {er1 : Nat → Int32} {er2 : Nat → Int32} {er3 : Nat → Int32} {er4 : Nat → Int32} {eZ : Nat → Int32} {fJ : Nat → Int64} {H : Heap} {locs : List Loc} {ls : Array Slot} {i : Int32} {nc : Nat} (hn : nc ≤ 511) (hi : 0 ≤ i.toInt ∧ i.toInt + 5 < (L : Int)) (hL : L ≤ 3072) (hI : INV nc lT lL lM l4 l5 lB lH lK gn lG lR l1 l2 l3 lq lp lv ke fsh wi ri fm lm lw zt zp zf zh zr zc zy za zb zs zq zn zm zk fT fL f41 f42 f43 f51 f52 f53 fH1 fH2 fK1 fK2 fG1 fG2 fW4 fW5 fW6 fW7 eT eS eX eL eB eD e1 e2 ec1 ec2 ec3 eH eY eE eW eO eZ) (hP : va_P (dC, dI) vwCl (WLD cI cS cJ oX nT aT nL aL nM aM oC o4 a41 a42 a43 o5 a51 a52 a53 oP nB aB oH h1 h2 oK k1 k2 oG g1 g2 oR n1 a1 n2 a2 n3 a3 r1 r2 r3 r4 r5 r6 oQ oE nq aq np ap nv av q1 q2 q3 q4 oW nw aw o7 o8 o9 w1 w2 w3 w4 w5 w6 w7 oM mT mS mX mL mB mD m1 m2 mR x1 x2 x3 mH mY mE mW mO y1 y2 y3 y4 mZ oJ fa lT lL lM l4 l5 ft lB lH lK gn lG lR l1 l2 l3 pr reE laE suE leE lq lp lv ke tl fsh wi ri fm lm lw re7 la7 su7 le7 re8 la8 su8 le8 re9 la9 su9 le9 zt zp zf zh zr zc zy za zb zs zq zw ze zn zm zl zk zd fT fL fM f41 f42 f43 f51 f52 f53 fB fH1 fH2 fK1 fK2 fG1 fG2 f1 f2 f3 fR1 fR2 fR3 fR4 fR5 fR6 fq fp fv fQ1 fQ2 fQ3 fQ4 fw fW1 fW2 fW3 fW4 fW5 fW6 fW7 eT eS eX eL eB eD e1 e2 eR ec1 ec2 ec3 eH eY eE eW eO er1 er2 er3 er4 eZ fJ) H) (hD : va_D A (WLD cI cS cJ oX nT aT nL aL nM aM oC o4 a41 a42 a43 o5 a51 a52 a53 oP nB aB oH h1 h2 oK k1 k2 oG g1 g2 oR n1 a1 n2 a2 n3 a3 r1 r2 r3 r4 r5 r6 oQ oE nq aq np ap nv av q1 q2 q3 q4 oW nw aw o7 o8 o9 w1 w2 w3 w4 w5 w6 w7 oM mT mS mX mL mB mD m1 m2 mR x1 x2 x3 mH mY mE mW mO y1 y2 y3 y4 mZ oJ fa lT lL lM l4 l5 ft lB lH lK gn lG lR l1 l2 l3 pr reE laE suE leE lq lp lv ke tl fsh wi ri fm lm lw re7 la7 su7 le7 re8 la8 su8 le8 re9 la9 su9 le9 zt zp zf zh zr zc zy za zb zs zq zw ze zn zm zl zk zd fT fL fM f41 f42 f43 f51 f52 f53 fB fH1 fH2 fK1 fK2 fG1 fG2 f1 f2 f3 fR1 fR2 fR3 fR4 fR5 fR6 fq fp fv fQ1 fQ2 fQ3 fQ4 fw fW1 fW2 fW3 fW4 fW5 fW6 fW7 eT eS eX eL eB eD e1 e2 eR ec1 ec2 ec3 eH eY eE eW eO er1 er2 er3 er4 eZ fJ)) (hS : va_S A s.heap H locs) (hl : lv_has ls 7 [(0, .ref b), (1, .ref oX), (2, .ref oM), (3, .ref oJ), (4, .int i)]) (kk : KK p l e s m below meth c dC dI cI cS cJ A b oX nT aT nL aL nM aM oC o4 a41 a42 a43 o5 a51 a52 a53 oP nB aB oH h1 h2 oK k1 k2 oG g1 g2 oR n1 a1 n2 a2 n3 a3 r1 r2 r3 r4 r5 r6 oQ oE nq aq np ap nv av q1 q2 q3 q4 oW nw aw o7 o8 o9 w1 w2 w3 w4 w5 w6 w7 oM mT mS mX mL mB mD m1 m2 mR x1 x2 x3 mH mY mE mW mO y1 y2 y3 y4 mZ oJ i nc) : W p l e room_1 s m #[Value.ref b] below meth c H locs (90 + nc) (172225 + 6 * nc) (lw_Z below #[Value.ref b] s) (F0 m 451 ls []) := by
  refine And.elim (fun hx hBC_0 => ?_) C0
  refine And.elim (fun hb hBC_1 => ?_) hBC_0
  refine And.elim (fun hr hBC_2 => ?_) hBC_1
  refine And.elim (fun hml hBC_3 => ?_) hBC_2
  refine And.elim (fun hown hBC_4 => ?_) hBC_3
  refine And.elim (fun hts0 hBC_5 => ?_) hBC_4
  refine And.elim (fun hX hBC_6 => ?_) hBC_5
  refine And.elim (fun hbl hBC_7 => ?_) hBC_6
  refine And.elim (fun hlocks hBC_8 => ?_) hBC_7
  have hgv := hBC_8
  clear hBC_0 hBC_1 hBC_2 hBC_3 hBC_4 hBC_5 hBC_6 hBC_7 hBC_8
  refine And.elim (fun g_lT hBI_0 => ?_) hI
  refine And.elim (fun g_lL hBI_1 => ?_) hBI_0
  refine And.elim (fun g_lM hBI_2 => ?_) hBI_1
  refine And.elim (fun g_lB hBI_3 => ?_) hBI_2
  refine And.elim (fun g_lH hBI_4 => ?_) hBI_3
  refine And.elim (fun g_lK hBI_5 => ?_) hBI_4
  refine And.elim (fun g_gn hBI_6 => ?_) hBI_5
  refine And.elim (fun g_lG hBI_7 => ?_) hBI_6
  refine And.elim (fun g_lR hBI_8 => ?_) hBI_7
  refine And.elim (fun g_l1 hBI_9 => ?_) hBI_8
  refine And.elim (fun g_l2 hBI_10 => ?_) hBI_9
  refine And.elim (fun g_l3 hBI_11 => ?_) hBI_10
  refine And.elim (fun g_lq hBI_12 => ?_) hBI_11
  refine And.elim (fun g_lp hBI_13 => ?_) hBI_12
  refine And.elim (fun g_lv hBI_14 => ?_) hBI_13
  refine And.elim (fun g_ke hBI_15 => ?_) hBI_14
  refine And.elim (fun g_fsh hBI_16 => ?_) hBI_15
  refine And.elim (fun g_fm hBI_17 => ?_) hBI_16
  refine And.elim (fun g_lm hBI_18 => ?_) hBI_17
  refine And.elim (fun g_lw hBI_19 => ?_) hBI_18
  refine And.elim (fun g_zt hBI_20 => ?_) hBI_19
  refine And.elim (fun g_zp hBI_21 => ?_) hBI_20
  refine And.elim (fun g_zf hBI_22 => ?_) hBI_21
  refine And.elim (fun g_zh hBI_23 => ?_) hBI_22
  refine And.elim (fun g_zr hBI_24 => ?_) hBI_23
  refine And.elim (fun g_zc hBI_25 => ?_) hBI_24
  refine And.elim (fun g_zy hBI_26 => ?_) hBI_25
  refine And.elim (fun g_za hBI_27 => ?_) hBI_26
  refine And.elim (fun g_zb hBI_28 => ?_) hBI_27
  refine And.elim (fun g_zs hBI_29 => ?_) hBI_28
  refine And.elim (fun g_zq hBI_30 => ?_) hBI_29
  refine And.elim (fun g_zn hBI_31 => ?_) hBI_30
  refine And.elim (fun g_zm hBI_32 => ?_) hBI_31
  refine And.elim (fun g_zk hBI_33 => ?_) hBI_32
  refine And.elim (fun g_fG2 hBI_34 => ?_) hBI_33
  refine And.elim (fun g_eS hBI_35 => ?_) hBI_34
  refine And.elim (fun g_eX hBI_36 => ?_) hBI_35
  refine And.elim (fun g_eL hBI_37 => ?_) hBI_36
  refine And.elim (fun g_eB hBI_38 => ?_) hBI_37
  refine And.elim (fun g_e1 hBI_39 => ?_) hBI_38
  refine And.elim (fun g_e2 hBI_40 => ?_) hBI_39
  refine And.elim (fun g_eY hBI_41 => ?_) hBI_40
  refine And.elim (fun g_eE hBI_42 => ?_) hBI_41
  refine And.elim (fun g_eW hBI_43 => ?_) hBI_42
  refine And.elim (fun g_eO hBI_44 => ?_) hBI_43
  refine And.elim (fun g_eZ hBI_45 => ?_) hBI_44
  refine And.elim (fun hzn hBI_46 => ?_) hBI_45
  refine And.elim (fun hrel hBI_47 => ?_) hBI_46
  refine And.elim (fun hrc hBI_48 => ?_) hBI_47
  refine And.elim (fun hr4 hBI_49 => ?_) hBI_48
  refine And.elim (fun hr5 hBI_50 => ?_) hBI_49
  refine And.elim (fun hb4 hBI_51 => ?_) hBI_50
  refine And.elim (fun hb5 hBI_52 => ?_) hBI_51
  refine And.elim (fun hlz hBI_53 => ?_) hBI_52
  refine And.elim (fun hH hBI_54 => ?_) hBI_53
  refine And.elim (fun hHe hBI_55 => ?_) hBI_54
  refine And.elim (fun hKz hBI_56 => ?_) hBI_55
  refine And.elim (fun hT hBI_57 => ?_) hBI_56
  refine And.elim (fun ho hBI_58 => ?_) hBI_57
  refine And.elim (fun hal hBI_59 => ?_) hBI_58
  refine And.elim (fun hCV hBI_60 => ?_) hBI_59
  refine And.elim (fun hVk hBI_61 => ?_) hBI_60
  refine And.elim (fun hVr hBI_62 => ?_) hBI_61
  refine And.elim (fun hTX hBI_63 => ?_) hBI_62
  refine And.elim (fun hCH hBI_64 => ?_) hBI_63
  refine And.elim (fun hvc hBI_65 => ?_) hBI_64
  refine And.elim (fun hfr hBI_66 => ?_) hBI_65
  refine And.elim (fun hfx hBI_67 => ?_) hBI_66
  have hfs := hBI_67
  clear hI hBI_0 hBI_1 hBI_2 hBI_3 hBI_4 hBI_5 hBI_6 hBI_7 hBI_8 hBI_9 hBI_10 hBI_11 hBI_12 hBI_13 hBI_14 hBI_15 hBI_16 hBI_17 hBI_18 hBI_19 hBI_20 hBI_21 hBI_22 hBI_23 hBI_24 hBI_25 hBI_26 hBI_27 hBI_28 hBI_29 hBI_30 hBI_31 hBI_32 hBI_33 hBI_34 hBI_35 hBI_36 hBI_37 hBI_38 hBI_39 hBI_40 hBI_41 hBI_42 hBI_43 hBI_44 hBI_45 hBI_46 hBI_47 hBI_48 hBI_49 hBI_50 hBI_51 hBI_52 hBI_53 hBI_54 hBI_55 hBI_56 hBI_57 hBI_58 hBI_59 hBI_60 hBI_61 hBI_62 hBI_63 hBI_64 hBI_65 hBI_66 hBI_67
  have hK : va_K (dC, dI) vwCl [(cI, .int), (cS, .short)] s := hK3.sub [0, 1] rfl
  have hown : s.vm.findClass RL = some m.cls := hown
  have hts := hts0
  have hcf := k_cf hx hb hml hown hts
  have hi9 : 0 ≤ i.toInt ∧ i.toInt ≤ 3066 := by omega
  have hzs : zs.toInt ≤ 1000000 := by omega
  have hA : ∀ q : Nat, s.heap.size ≤ q → A q := fun q h => by rw [hAd]; exact h
  have hbA : ¬ A b := by rw [hAd]; exact Nat.not_le.mpr hbl
  have hP : va_P (dC, dI) vwCl [(oX, .inr (11, [.ref nT, .ref nL, .ref nM, .ref oC, .ref oP, .ref oH, .ref oK, .ref oG, .ref oR, .ref oQ, .ref oW, .int fa])), (nT, .inr (5, [.ref aT, .int lT])), (aT, .inl (cI, 900, .inl fT)), (nL, .inr (5, [.ref aL, .int lL])), (aL, .inl (cI, 300, .inl fL)), (nM, .inr (5, [.ref aM, .int lM])), (aM, .inl (cI, 300, .inl fM)), (oC, .inr (2, [.ref o4, .ref o5])), (o4, .inr (10, [.ref a41, .ref a42, .ref a43, .int l4])), (a41, .inl (cI, 256, .inl f41)), (a42, .inl (cI, 512, .inl f42)), (a43, .inl (cI, 512, .inl f43)), (o5, .inr (10, [.ref a51, .ref a52, .ref a53, .int l5])), (a51, .inl (cI, 256, .inl f51)), (a52, .inl (cI, 512, .inl f52)), (a53, .inl (cI, 512, .inl f53)), (oP, .inr (7, [.ref oC, .ref nB, .int ft])), (nB, .inr (5, [.ref aB, .int lB])), (aB, .inl (cI, 2400, .inl fB)), (oH, .inr (4, [.ref oP, .ref h1, .ref h2, .int lH])), (h1, .inl (cI, 6, .inl fH1)), (h2, .inl (cI, 6, .inl fH2)), (oK, .inr (3, [.ref k1, .ref k2, .int lK])), (k1, .inl (cI, 1024, .inl fK1)), (k2, .inl (cI, 1024, .inl fK2)), (oG, .inr (0, [.ref g1, .ref g2, .int gn, .int lG])), (g1, .inl (cI, 6000, .inl fG1)), (g2, .inl (cI, 20, .inl fG2)), (oR, .inr (9, [.ref oH, .ref oK, .ref n1, .ref n2, .ref n3, .ref r1, .ref r2, .ref r3, .ref r4, .ref r5, .ref r6, .int lR])), (n1, .inr (5, [.ref a1, .int l1])), (a1, .inl (cI, 300, .inl f1)), (n2, .inr (5, [.ref a2, .int l2])), (a2, .inl (cI, 300, .inl f2)), (n3, .inr (5, [.ref a3, .int l3])), (a3, .inl (cI, 300, .inl f3)), (r1, .inl (cI, 258, .inl fR1)), (r2, .inl (cI, 258, .inl fR2)), (r3, .inl (cI, 774, .inl fR3)), (r4, .inl (cI, 258, .inl fR4)), (r5, .inl (cI, 258, .inl fR5)), (r6, .inl (cI, 774, .inl fR6)), (oQ, .inr (6, [.ref oC, .ref oH, .ref oK, .ref oE, .ref nq, .ref np, .ref nv, .ref q1, .ref q2, .ref q3, .ref q4, .int pr])), (oE, .inr (8, [.ref oC, .ref oK, .int reE, .int laE, .int suE, .int leE])), (nq, .inr (5, [.ref aq, .int lq])), (aq, .inl (cI, 480, .inl fq)), (np, .inr (5, [.ref ap, .int lp])), (ap, .inl (cI, 300, .inl fp)), (nv, .inr (5, [.ref av, .int lv])), (av, .inl (cI, 300, .inl fv)), (q1, .inl (cI, 61, .inl fQ1)), (q2, .inl (cI, 61, .inl fQ2)), (q3, .inl (cI, 61, .inl fQ3)), (q4, .inl (cI, 61, .inl fQ4)), (oW, .inr (1, [.ref oC, .ref oK, .ref nw, .ref w1, .ref w2, .ref w3, .ref o7, .ref o8, .ref o9, .ref w4, .ref w5, .ref w6, .ref w7, .int ke, .int tl, .int fsh, .int wi, .int ri, .int fm, .int lm])), (nw, .inr (5, [.ref aw, .int lw])), (aw, .inl (cI, 800, .inl fw)), (o7, .inr (8, [.ref oC, .ref oK, .int re7, .int la7, .int su7, .int le7])), (o8, .inr (8, [.ref oC, .ref oK, .int re8, .int la8, .int su8, .int le8])), (o9, .inr (8, [.ref oC, .ref oK, .int re9, .int la9, .int su9, .int le9])), (w1, .inl (cI, 801, .inl fW1)), (w2, .inl (cI, 801, .inl fW2)), (w3, .inl (cI, 801, .inl fW3)), (w4, .inl (cI, 200, .inl fW4)), (w5, .inl (cI, 200, .inl fW5)), (w6, .inl (cI, 200, .inl fW6)), (w7, .inl (cI, 200, .inl fW7)), (oM, .inr (12, [.ref mT, .int zt, .ref mS, .ref mX, .int zp, .int zf, .ref mL, .ref mB, .ref mD, .ref m1, .ref m2, .int zh, .ref mR, .int zr, .ref x1, .ref x2, .ref x3, .int zc, .ref mH, .int zy, .int za, .int zb, .int zs, .int zq, .int zw, .int ze, .ref mY, .int zn, .ref mE, .int zm, .int zl, .ref mW, .int zk, .ref mO, .int zd, .ref y1, .ref y2, .ref y3, .ref y4, .ref mZ])), (mT, .inl (cI, 900, .inl eT)), (mS, .inl (cI, 21, .inl eS)), (mX, .inl (cI, 6300, .inl eX)), (mL, .inl (cI, 512, .inl eL)), (mB, .inl (cS, 131072, .inl eB)), (mD, .inl (cI, 2, .inl eD)), (m1, .inl (cI, 6, .inl e1)), (m2, .inl (cI, 6, .inl e2)), (mR, .inl (cI, 1548, .inl eR)), (x1, .inl (cI, 300, .inl ec1)), (x2, .inl (cI, 300, .inl ec2)), (x3, .inl (cI, 300, .inl ec3)), (mH, .inl (cI, 800, .inl eH)), (mY, .inl (cI, 2600, .inl eY)), (mE, .inl (cI, 2600, .inl eE)), (mW, .inl (cI, 300, .inl eW)), (mO, .inl (cI, 300, .inl eO)), (y1, .inl (cI, 61, .inl er1)), (y2, .inl (cI, 61, .inl er2)), (y3, .inl (cI, 61, .inl er3)), (y4, .inl (cI, 61, .inl er4)), (mZ, .inl (cI, 600, .inl eZ)), (oJ, .inl (cJ, 1, .inr (.inl fJ)))] H := hP
  have hD : va_D A [(oX, .inr (11, [.ref nT, .ref nL, .ref nM, .ref oC, .ref oP, .ref oH, .ref oK, .ref oG, .ref oR, .ref oQ, .ref oW, .int fa])), (nT, .inr (5, [.ref aT, .int lT])), (aT, .inl (cI, 900, .inl fT)), (nL, .inr (5, [.ref aL, .int lL])), (aL, .inl (cI, 300, .inl fL)), (nM, .inr (5, [.ref aM, .int lM])), (aM, .inl (cI, 300, .inl fM)), (oC, .inr (2, [.ref o4, .ref o5])), (o4, .inr (10, [.ref a41, .ref a42, .ref a43, .int l4])), (a41, .inl (cI, 256, .inl f41)), (a42, .inl (cI, 512, .inl f42)), (a43, .inl (cI, 512, .inl f43)), (o5, .inr (10, [.ref a51, .ref a52, .ref a53, .int l5])), (a51, .inl (cI, 256, .inl f51)), (a52, .inl (cI, 512, .inl f52)), (a53, .inl (cI, 512, .inl f53)), (oP, .inr (7, [.ref oC, .ref nB, .int ft])), (nB, .inr (5, [.ref aB, .int lB])), (aB, .inl (cI, 2400, .inl fB)), (oH, .inr (4, [.ref oP, .ref h1, .ref h2, .int lH])), (h1, .inl (cI, 6, .inl fH1)), (h2, .inl (cI, 6, .inl fH2)), (oK, .inr (3, [.ref k1, .ref k2, .int lK])), (k1, .inl (cI, 1024, .inl fK1)), (k2, .inl (cI, 1024, .inl fK2)), (oG, .inr (0, [.ref g1, .ref g2, .int gn, .int lG])), (g1, .inl (cI, 6000, .inl fG1)), (g2, .inl (cI, 20, .inl fG2)), (oR, .inr (9, [.ref oH, .ref oK, .ref n1, .ref n2, .ref n3, .ref r1, .ref r2, .ref r3, .ref r4, .ref r5, .ref r6, .int lR])), (n1, .inr (5, [.ref a1, .int l1])), (a1, .inl (cI, 300, .inl f1)), (n2, .inr (5, [.ref a2, .int l2])), (a2, .inl (cI, 300, .inl f2)), (n3, .inr (5, [.ref a3, .int l3])), (a3, .inl (cI, 300, .inl f3)), (r1, .inl (cI, 258, .inl fR1)), (r2, .inl (cI, 258, .inl fR2)), (r3, .inl (cI, 774, .inl fR3)), (r4, .inl (cI, 258, .inl fR4)), (r5, .inl (cI, 258, .inl fR5)), (r6, .inl (cI, 774, .inl fR6)), (oQ, .inr (6, [.ref oC, .ref oH, .ref oK, .ref oE, .ref nq, .ref np, .ref nv, .ref q1, .ref q2, .ref q3, .ref q4, .int pr])), (oE, .inr (8, [.ref oC, .ref oK, .int reE, .int laE, .int suE, .int leE])), (nq, .inr (5, [.ref aq, .int lq])), (aq, .inl (cI, 480, .inl fq)), (np, .inr (5, [.ref ap, .int lp])), (ap, .inl (cI, 300, .inl fp)), (nv, .inr (5, [.ref av, .int lv])), (av, .inl (cI, 300, .inl fv)), (q1, .inl (cI, 61, .inl fQ1)), (q2, .inl (cI, 61, .inl fQ2)), (q3, .inl (cI, 61, .inl fQ3)), (q4, .inl (cI, 61, .inl fQ4)), (oW, .inr (1, [.ref oC, .ref oK, .ref nw, .ref w1, .ref w2, .ref w3, .ref o7, .ref o8, .ref o9, .ref w4, .ref w5, .ref w6, .ref w7, .int ke, .int tl, .int fsh, .int wi, .int ri, .int fm, .int lm])), (nw, .inr (5, [.ref aw, .int lw])), (aw, .inl (cI, 800, .inl fw)), (o7, .inr (8, [.ref oC, .ref oK, .int re7, .int la7, .int su7, .int le7])), (o8, .inr (8, [.ref oC, .ref oK, .int re8, .int la8, .int su8, .int le8])), (o9, .inr (8, [.ref oC, .ref oK, .int re9, .int la9, .int su9, .int le9])), (w1, .inl (cI, 801, .inl fW1)), (w2, .inl (cI, 801, .inl fW2)), (w3, .inl (cI, 801, .inl fW3)), (w4, .inl (cI, 200, .inl fW4)), (w5, .inl (cI, 200, .inl fW5)), (w6, .inl (cI, 200, .inl fW6)), (w7, .inl (cI, 200, .inl fW7)), (oM, .inr (12, [.ref mT, .int zt, .ref mS, .ref mX, .int zp, .int zf, .ref mL, .ref mB, .ref mD, .ref m1, .ref m2, .int zh, .ref mR, .int zr, .ref x1, .ref x2, .ref x3, .int zc, .ref mH, .int zy, .int za, .int zb, .int zs, .int zq, .int zw, .int ze, .ref mY, .int zn, .ref mE, .int zm, .int zl, .ref mW, .int zk, .ref mO, .int zd, .ref y1, .ref y2, .ref y3, .ref y4, .ref mZ])), (mT, .inl (cI, 900, .inl eT)), (mS, .inl (cI, 21, .inl eS)), (mX, .inl (cI, 6300, .inl eX)), (mL, .inl (cI, 512, .inl eL)), (mB, .inl (cS, 131072, .inl eB)), (mD, .inl (cI, 2, .inl eD)), (m1, .inl (cI, 6, .inl e1)), (m2, .inl (cI, 6, .inl e2)), (mR, .inl (cI, 1548, .inl eR)), (x1, .inl (cI, 300, .inl ec1)), (x2, .inl (cI, 300, .inl ec2)), (x3, .inl (cI, 300, .inl ec3)), (mH, .inl (cI, 800, .inl eH)), (mY, .inl (cI, 2600, .inl eY)), (mE, .inl (cI, 2600, .inl eE)), (mW, .inl (cI, 300, .inl eW)), (mO, .inl (cI, 300, .inl eO)), (y1, .inl (cI, 61, .inl er1)), (y2, .inl (cI, 61, .inl er2)), (y3, .inl (cI, 61, .inl er3)), (y4, .inl (cI, 61, .inl er4)), (mZ, .inl (cI, 600, .inl eZ)), (oJ, .inl (cJ, 1, .inr (.inl fJ)))] := hD
  replace g_lT := hid g_lT
  replace g_lM := hid g_lM
  replace g_lB := hid g_lB
  replace g_lR := hid g_lR
  replace g_l1 := hid g_l1
  replace g_l2 := hid g_l2
  replace g_l3 := hid g_l3
  replace g_lq := hid g_lq
  replace g_lp := hid g_lp
  replace g_lv := hid g_lv
  replace g_fm := hid g_fm
  replace g_lm := hid g_lm
  replace g_lw := hid g_lw
  replace g_zt := hid g_zt
  replace g_zr := hid g_zr
  replace g_zn := hid g_zn
  replace g_zm := hid g_zm
  replace g_zk := hid g_zk
  refine lv_aload_n hx hb dL_law_451 rfl (lv_at hl 1 rfl) ?_
  refine lv_aload_n hx hb dL_law_452 rfl (lv_at hl 0 rfl) ?_
  refine lv_iload hx hb dL_law_453 (lv_at hl 4 rfl) ?_
  refine lv_iconst (v := 1) hx hb dL_law_455 (by decide) ?_
  refine lv_iadd hx hb dL_law_456 ?_
  refine lv_topi (fun x_1 ex_1 => ?_)
  have tx_1 : x_1.toInt = i.toInt + 1 := v_addR (l2 := 1) (h2 := 1) ex_1 hi9 (by decide) (by decide) (by decide)
  refine va_sld hx hb hX hbl hbA hS (v_in (v_sld5 tx_1 hi (by decide))) dL_law_457 ?_
  refine lv_topi (fun x_2 ex_2 => ?_)
  refine kV_i (rest := []) (q0 := 0) (ci := 11) hcf (f_X11_size l dC dI cI cS H.size oX nT nL nM oC oP oH oK oG oR oQ oW aL nB aB o4 o5 a41 a42 a43 a51 a52 a53 fa lL fL ft lB fB l4 f42 f43 l5 f52 f53 x_2 (g_lL) (g_lB) (TX_p hTX) (hr4.1) (occ_511 hr4.2.1) (hr5.1) (occ_511 hr5.2.1)) kc_X11_size gL_law_X11_size rfl rfl rfl ⟨Nat.le_of_ble_eq_true rfl, Nat.le_of_ble_eq_true rfl⟩ kX_t hK hP hD hS hA ([0, 1, 2, 10, 11, 12, 3, 4, 5, 6, 7, 8, 9].filterMap (fun j => (posT mk_16 0)[j]?)) (posF mk_16 0) (kCp (ws := [(oX, .inr (11, [.ref nT, .ref nL, .ref nM, .ref oC, .ref oP, .ref oH, .ref oK, .ref oG, .ref oR, .ref oQ, .ref oW, .int fa])), (nL, .inr (5, [.ref aL, .int lL])), (aL, .inl (cI, 300, .inl fL)), (oC, .inr (2, [.ref o4, .ref o5])), (o4, .inr (10, [.ref a41, .ref a42, .ref a43, .int l4])), (a42, .inl (cI, 512, .inl f42)), (a43, .inl (cI, 512, .inl f43)), (o5, .inr (10, [.ref a51, .ref a52, .ref a53, .int l5])), (a52, .inl (cI, 512, .inl f52)), (a53, .inl (cI, 512, .inl f53)), (oP, .inr (7, [.ref oC, .ref nB, .int ft])), (nB, .inr (5, [.ref aB, .int lB])), (aB, .inl (cI, 2400, .inl fB))]) (kC_of mk_16 rfl rfl) rfl) (by decide +kernel) rfl rfl rfl hl rfl (Nat.le_of_ble_eq_true rfl) dL_law_458 ⟨kfit1 hn (Nat.le_of_ble_eq_true rfl), ksix1 hn (Nat.le_of_ble_eq_true rfl)⟩ (fun r_3 H locs hB hJ hSn => ?_)
  refine Exists.elim hB (fun fa_3 hB3_0 => ?_)
  refine Exists.elim hB3_0 (fun ft_3 hB3_1 => ?_)
  refine Exists.elim hB3_1 (fun lB_3 hB3_2 => ?_)
  refine Exists.elim hB3_2 (fun fB_3 hB3_3 => ?_)
  refine And.elim (fun hPD9 hB3_4 => ?_) hB3_3
  refine And.elim (fun hf3_0 hB3_5 => ?_) hB3_4
  have hf3_1 := hB3_5
  clear hB hB3_0 hB3_1 hB3_2 hB3_3 hB3_4 hB3_5
  obtain ⟨hPn, hDn⟩ := kJm (m := mk_16) hJ rfl hPD9.1 hPD9.2 [0, 1, 2, 6, 7, 8, 9, 10, 11, 12, 3, 4, 5] (by decide +kernel) (ws := [(oX, .inr (11, [.ref nT, .ref nL, .ref nM, .ref oC, .ref oP, .ref oH, .ref oK, .ref oG, .ref oR, .ref oQ, .ref oW, .int fa_3])), (nL, .inr (5, [.ref aL, .int lL])), (aL, .inl (cI, 300, .inl fL)), (oC, .inr (2, [.ref o4, .ref o5])), (o4, .inr (10, [.ref a41, .ref a42, .ref a43, .int l4])), (a42, .inl (cI, 512, .inl f42)), (a43, .inl (cI, 512, .inl f43)), (o5, .inr (10, [.ref a51, .ref a52, .ref a53, .int l5])), (a52, .inl (cI, 512, .inl f52)), (a53, .inl (cI, 512, .inl f53)), (oP, .inr (7, [.ref oC, .ref nB, .int ft_3])), (nB, .inr (5, [.ref aB, .int lB_3])), (aB, .inl (cI, 2400, .inl fB_3))]) rfl (wn := [(oX, .inr (11, [.ref nT, .ref nL, .ref nM, .ref oC, .ref oP, .ref oH, .ref oK, .ref oG, .ref oR, .ref oQ, .ref oW, .int fa_3])), (nT, .inr (5, [.ref aT, .int lT])), (aT, .inl (cI, 900, .inl fT)), (nL, .inr (5, [.ref aL, .int lL])), (aL, .inl (cI, 300, .inl fL)), (nM, .inr (5, [.ref aM, .int lM])), (aM, .inl (cI, 300, .inl fM)), (oC, .inr (2, [.ref o4, .ref o5])), (o4, .inr (10, [.ref a41, .ref a42, .ref a43, .int l4])), (a41, .inl (cI, 256, .inl f41)), (a42, .inl (cI, 512, .inl f42)), (a43, .inl (cI, 512, .inl f43)), (o5, .inr (10, [.ref a51, .ref a52, .ref a53, .int l5])), (a51, .inl (cI, 256, .inl f51)), (a52, .inl (cI, 512, .inl f52)), (a53, .inl (cI, 512, .inl f53)), (oP, .inr (7, [.ref oC, .ref nB, .int ft_3])), (nB, .inr (5, [.ref aB, .int lB_3])), (aB, .inl (cI, 2400, .inl fB_3)), (oH, .inr (4, [.ref oP, .ref h1, .ref h2, .int lH])), (h1, .inl (cI, 6, .inl fH1)), (h2, .inl (cI, 6, .inl fH2)), (oK, .inr (3, [.ref k1, .ref k2, .int lK])), (k1, .inl (cI, 1024, .inl fK1)), (k2, .inl (cI, 1024, .inl fK2)), (oG, .inr (0, [.ref g1, .ref g2, .int gn, .int lG])), (g1, .inl (cI, 6000, .inl fG1)), (g2, .inl (cI, 20, .inl fG2)), (oR, .inr (9, [.ref oH, .ref oK, .ref n1, .ref n2, .ref n3, .ref r1, .ref r2, .ref r3, .ref r4, .ref r5, .ref r6, .int lR])), (n1, .inr (5, [.ref a1, .int l1])), (a1, .inl (cI, 300, .inl f1)), (n2, .inr (5, [.ref a2, .int l2])), (a2, .inl (cI, 300, .inl f2)), (n3, .inr (5, [.ref a3, .int l3])), (a3, .inl (cI, 300, .inl f3)), (r1, .inl (cI, 258, .inl fR1)), (r2, .inl (cI, 258, .inl fR2)), (r3, .inl (cI, 774, .inl fR3)), (r4, .inl (cI, 258, .inl fR4)), (r5, .inl (cI, 258, .inl fR5)), (r6, .inl (cI, 774, .inl fR6)), (oQ, .inr (6, [.ref oC, .ref oH, .ref oK, .ref oE, .ref nq, .ref np, .ref nv, .ref q1, .ref q2, .ref q3, .ref q4, .int pr])), (oE, .inr (8, [.ref oC, .ref oK, .int reE, .int laE, .int suE, .int leE])), (nq, .inr (5, [.ref aq, .int lq])), (aq, .inl (cI, 480, .inl fq)), (np, .inr (5, [.ref ap, .int lp])), (ap, .inl (cI, 300, .inl fp)), (nv, .inr (5, [.ref av, .int lv])), (av, .inl (cI, 300, .inl fv)), (q1, .inl (cI, 61, .inl fQ1)), (q2, .inl (cI, 61, .inl fQ2)), (q3, .inl (cI, 61, .inl fQ3)), (q4, .inl (cI, 61, .inl fQ4)), (oW, .inr (1, [.ref oC, .ref oK, .ref nw, .ref w1, .ref w2, .ref w3, .ref o7, .ref o8, .ref o9, .ref w4, .ref w5, .ref w6, .ref w7, .int ke, .int tl, .int fsh, .int wi, .int ri, .int fm, .int lm])), (nw, .inr (5, [.ref aw, .int lw])), (aw, .inl (cI, 800, .inl fw)), (o7, .inr (8, [.ref oC, .ref oK, .int re7, .int la7, .int su7, .int le7])), (o8, .inr (8, [.ref oC, .ref oK, .int re8, .int la8, .int su8, .int le8])), (o9, .inr (8, [.ref oC, .ref oK, .int re9, .int la9, .int su9, .int le9])), (w1, .inl (cI, 801, .inl fW1)), (w2, .inl (cI, 801, .inl fW2)), (w3, .inl (cI, 801, .inl fW3)), (w4, .inl (cI, 200, .inl fW4)), (w5, .inl (cI, 200, .inl fW5)), (w6, .inl (cI, 200, .inl fW6)), (w7, .inl (cI, 200, .inl fW7)), (oM, .inr (12, [.ref mT, .int zt, .ref mS, .ref mX, .int zp, .int zf, .ref mL, .ref mB, .ref mD, .ref m1, .ref m2, .int zh, .ref mR, .int zr, .ref x1, .ref x2, .ref x3, .int zc, .ref mH, .int zy, .int za, .int zb, .int zs, .int zq, .int zw, .int ze, .ref mY, .int zn, .ref mE, .int zm, .int zl, .ref mW, .int zk, .ref mO, .int zd, .ref y1, .ref y2, .ref y3, .ref y4, .ref mZ])), (mT, .inl (cI, 900, .inl eT)), (mS, .inl (cI, 21, .inl eS)), (mX, .inl (cI, 6300, .inl eX)), (mL, .inl (cI, 512, .inl eL)), (mB, .inl (cS, 131072, .inl eB)), (mD, .inl (cI, 2, .inl eD)), (m1, .inl (cI, 6, .inl e1)), (m2, .inl (cI, 6, .inl e2)), (mR, .inl (cI, 1548, .inl eR)), (x1, .inl (cI, 300, .inl ec1)), (x2, .inl (cI, 300, .inl ec2)), (x3, .inl (cI, 300, .inl ec3)), (mH, .inl (cI, 800, .inl eH)), (mY, .inl (cI, 2600, .inl eY)), (mE, .inl (cI, 2600, .inl eE)), (mW, .inl (cI, 300, .inl eW)), (mO, .inl (cI, 300, .inl eO)), (y1, .inl (cI, 61, .inl er1)), (y2, .inl (cI, 61, .inl er2)), (y3, .inl (cI, 61, .inl er3)), (y4, .inl (cI, 61, .inl er4)), (mZ, .inl (cI, 600, .inl eZ)), (oJ, .inl (cJ, 1, .inr (.inl fJ)))]) rfl
  clear hP hD hS hJ hPD9
  have hP := hPn
  have hD := hDn
  have hS := hSn
  clear hPn hDn hSn
  refine lv_pop hx hb dL_law_461 rfl ?_
  refine lv_aload_n hx hb dL_law_462 rfl (lv_at hl 2 rfl) ?_
  refine lv_aload_n hx hb dL_law_463 rfl (lv_at hl 0 rfl) ?_
  refine lv_iload hx hb dL_law_464 (lv_at hl 4 rfl) ?_
  refine lv_iconst (v := 1) hx hb dL_law_466 (by decide) ?_
  refine lv_iadd hx hb dL_law_467 ?_
  refine lv_topi (fun x_4 ex_4 => ?_)
  have tx_4 : x_4.toInt = i.toInt + 1 := v_addR (l2 := 1) (h2 := 1) ex_4 hi9 (by decide) (by decide) (by decide)
  refine va_sld hx hb hX hbl hbA hS (v_in (v_sld5 tx_4 hi (by decide))) dL_law_468 ?_
  refine lv_topi (fun x_5 ex_5 => ?_)
  have es_5 : x_5 = x_2 := by rw [ex_5, ex_2, ex_4, ex_1]
  rw [es_5]
  refine kV_i (rest := []) (q0 := 0) (ci := 12) hcf (f_X12_size l dC dI cI cS H.size oM mT mS mX mL mB mD m1 m2 mR x1 x2 x3 mH mY mE mW mO y1 y2 y3 y4 mZ zt zp zf zh zr zc zy za zb zs zq zw ze zn zm zl zk zd eY eB eS eX x_2 (g_zt) (g_zp) (g_zf) (g_zh) (g_zr) (g_zc) (g_zy) (g_za) (g_zb) (g_zs) (g_zq) (g_zn) (g_zm) (g_zk) (g_eY) (g_eB) (g_eS) (g_eX) (by omega)) kc_X12_size gL_law_X12_size rfl rfl rfl ⟨Nat.le_of_ble_eq_true rfl, Nat.le_of_ble_eq_true rfl⟩ kX_t hK hP hD hS hA ([0, 4, 3, 1, 2].filterMap (fun j => (posT mk_17 0)[j]?)) (posF mk_17 0) (kCp (ws := [(oM, .inr (12, [.ref mT, .int zt, .ref mS, .ref mX, .int zp, .int zf, .ref mL, .ref mB, .ref mD, .ref m1, .ref m2, .int zh, .ref mR, .int zr, .ref x1, .ref x2, .ref x3, .int zc, .ref mH, .int zy, .int za, .int zb, .int zs, .int zq, .int zw, .int ze, .ref mY, .int zn, .ref mE, .int zm, .int zl, .ref mW, .int zk, .ref mO, .int zd, .ref y1, .ref y2, .ref y3, .ref y4, .ref mZ])), (mS, .inl (cI, 21, .inl eS)), (mX, .inl (cI, 6300, .inl eX)), (mB, .inl (cS, 131072, .inl eB)), (mY, .inl (cI, 2600, .inl eY))]) (kC_of mk_17 rfl rfl) rfl) (by decide +kernel) rfl rfl rfl hl rfl (Nat.le_of_ble_eq_true rfl) dL_law_469 ⟨kfit2 hn (Nat.le_of_ble_eq_true rfl), ksix2 hn (Nat.le_of_ble_eq_true rfl)⟩ (fun r_6 H locs hB hJ hSn => ?_)
  refine Exists.elim hB (fun ze_6 hB6_0 => ?_)
  refine Exists.elim hB6_0 (fun zw_6 hB6_1 => ?_)
  refine Exists.elim hB6_1 (fun zn_6 hB6_2 => ?_)
  refine Exists.elim hB6_2 (fun eY_6 hB6_3 => ?_)
  refine Exists.elim hB6_3 (fun zl_6 hB6_4 => ?_)
  refine And.elim (fun hPD9 hB6_5 => ?_) hB6_4
  refine And.elim (fun hf6_0 hB6_6 => ?_) hB6_5
  refine And.elim (fun hf6_1 hB6_7 => ?_) hB6_6
  have hf6_2 := hB6_7
  clear hB hB6_0 hB6_1 hB6_2 hB6_3 hB6_4 hB6_5 hB6_6 hB6_7
  obtain ⟨hPn, hDn⟩ := kJm (m := mk_17) hJ rfl hPD9.1 hPD9.2 [0, 3, 4, 2, 1] (by decide +kernel) (ws := [(oM, .inr (12, [.ref mT, .int zt, .ref mS, .ref mX, .int zp, .int zf, .ref mL, .ref mB, .ref mD, .ref m1, .ref m2, .int zh, .ref mR, .int zr, .ref x1, .ref x2, .ref x3, .int zc, .ref mH, .int zy, .int za, .int zb, .int zs, .int zq, .int zw_6, .int ze_6, .ref mY, .int zn_6, .ref mE, .int zm, .int zl_6, .ref mW, .int zk, .ref mO, .int zd, .ref y1, .ref y2, .ref y3, .ref y4, .ref mZ])), (mS, .inl (cI, 21, .inl eS)), (mX, .inl (cI, 6300, .inl eX)), (mB, .inl (cS, 131072, .inl eB)), (mY, .inl (cI, 2600, .inl eY_6))]) rfl (wn := [(oX, .inr (11, [.ref nT, .ref nL, .ref nM, .ref oC, .ref oP, .ref oH, .ref oK, .ref oG, .ref oR, .ref oQ, .ref oW, .int fa_3])), (nT, .inr (5, [.ref aT, .int lT])), (aT, .inl (cI, 900, .inl fT)), (nL, .inr (5, [.ref aL, .int lL])), (aL, .inl (cI, 300, .inl fL)), (nM, .inr (5, [.ref aM, .int lM])), (aM, .inl (cI, 300, .inl fM)), (oC, .inr (2, [.ref o4, .ref o5])), (o4, .inr (10, [.ref a41, .ref a42, .ref a43, .int l4])), (a41, .inl (cI, 256, .inl f41)), (a42, .inl (cI, 512, .inl f42)), (a43, .inl (cI, 512, .inl f43)), (o5, .inr (10, [.ref a51, .ref a52, .ref a53, .int l5])), (a51, .inl (cI, 256, .inl f51)), (a52, .inl (cI, 512, .inl f52)), (a53, .inl (cI, 512, .inl f53)), (oP, .inr (7, [.ref oC, .ref nB, .int ft_3])), (nB, .inr (5, [.ref aB, .int lB_3])), (aB, .inl (cI, 2400, .inl fB_3)), (oH, .inr (4, [.ref oP, .ref h1, .ref h2, .int lH])), (h1, .inl (cI, 6, .inl fH1)), (h2, .inl (cI, 6, .inl fH2)), (oK, .inr (3, [.ref k1, .ref k2, .int lK])), (k1, .inl (cI, 1024, .inl fK1)), (k2, .inl (cI, 1024, .inl fK2)), (oG, .inr (0, [.ref g1, .ref g2, .int gn, .int lG])), (g1, .inl (cI, 6000, .inl fG1)), (g2, .inl (cI, 20, .inl fG2)), (oR, .inr (9, [.ref oH, .ref oK, .ref n1, .ref n2, .ref n3, .ref r1, .ref r2, .ref r3, .ref r4, .ref r5, .ref r6, .int lR])), (n1, .inr (5, [.ref a1, .int l1])), (a1, .inl (cI, 300, .inl f1)), (n2, .inr (5, [.ref a2, .int l2])), (a2, .inl (cI, 300, .inl f2)), (n3, .inr (5, [.ref a3, .int l3])), (a3, .inl (cI, 300, .inl f3)), (r1, .inl (cI, 258, .inl fR1)), (r2, .inl (cI, 258, .inl fR2)), (r3, .inl (cI, 774, .inl fR3)), (r4, .inl (cI, 258, .inl fR4)), (r5, .inl (cI, 258, .inl fR5)), (r6, .inl (cI, 774, .inl fR6)), (oQ, .inr (6, [.ref oC, .ref oH, .ref oK, .ref oE, .ref nq, .ref np, .ref nv, .ref q1, .ref q2, .ref q3, .ref q4, .int pr])), (oE, .inr (8, [.ref oC, .ref oK, .int reE, .int laE, .int suE, .int leE])), (nq, .inr (5, [.ref aq, .int lq])), (aq, .inl (cI, 480, .inl fq)), (np, .inr (5, [.ref ap, .int lp])), (ap, .inl (cI, 300, .inl fp)), (nv, .inr (5, [.ref av, .int lv])), (av, .inl (cI, 300, .inl fv)), (q1, .inl (cI, 61, .inl fQ1)), (q2, .inl (cI, 61, .inl fQ2)), (q3, .inl (cI, 61, .inl fQ3)), (q4, .inl (cI, 61, .inl fQ4)), (oW, .inr (1, [.ref oC, .ref oK, .ref nw, .ref w1, .ref w2, .ref w3, .ref o7, .ref o8, .ref o9, .ref w4, .ref w5, .ref w6, .ref w7, .int ke, .int tl, .int fsh, .int wi, .int ri, .int fm, .int lm])), (nw, .inr (5, [.ref aw, .int lw])), (aw, .inl (cI, 800, .inl fw)), (o7, .inr (8, [.ref oC, .ref oK, .int re7, .int la7, .int su7, .int le7])), (o8, .inr (8, [.ref oC, .ref oK, .int re8, .int la8, .int su8, .int le8])), (o9, .inr (8, [.ref oC, .ref oK, .int re9, .int la9, .int su9, .int le9])), (w1, .inl (cI, 801, .inl fW1)), (w2, .inl (cI, 801, .inl fW2)), (w3, .inl (cI, 801, .inl fW3)), (w4, .inl (cI, 200, .inl fW4)), (w5, .inl (cI, 200, .inl fW5)), (w6, .inl (cI, 200, .inl fW6)), (w7, .inl (cI, 200, .inl fW7)), (oM, .inr (12, [.ref mT, .int zt, .ref mS, .ref mX, .int zp, .int zf, .ref mL, .ref mB, .ref mD, .ref m1, .ref m2, .int zh, .ref mR, .int zr, .ref x1, .ref x2, .ref x3, .int zc, .ref mH, .int zy, .int za, .int zb, .int zs, .int zq, .int zw_6, .int ze_6, .ref mY, .int zn_6, .ref mE, .int zm, .int zl_6, .ref mW, .int zk, .ref mO, .int zd, .ref y1, .ref y2, .ref y3, .ref y4, .ref mZ])), (mT, .inl (cI, 900, .inl eT)), (mS, .inl (cI, 21, .inl eS)), (mX, .inl (cI, 6300, .inl eX)), (mL, .inl (cI, 512, .inl eL)), (mB, .inl (cS, 131072, .inl eB)), (mD, .inl (cI, 2, .inl eD)), (m1, .inl (cI, 6, .inl e1)), (m2, .inl (cI, 6, .inl e2)), (mR, .inl (cI, 1548, .inl eR)), (x1, .inl (cI, 300, .inl ec1)), (x2, .inl (cI, 300, .inl ec2)), (x3, .inl (cI, 300, .inl ec3)), (mH, .inl (cI, 800, .inl eH)), (mY, .inl (cI, 2600, .inl eY_6)), (mE, .inl (cI, 2600, .inl eE)), (mW, .inl (cI, 300, .inl eW)), (mO, .inl (cI, 300, .inl eO)), (y1, .inl (cI, 61, .inl er1)), (y2, .inl (cI, 61, .inl er2)), (y3, .inl (cI, 61, .inl er3)), (y4, .inl (cI, 61, .inl er4)), (mZ, .inl (cI, 600, .inl eZ)), (oJ, .inl (cJ, 1, .inr (.inl fJ)))]) rfl
  clear hP hD hS hJ hPD9
  have hP := hPn
  have hD := hDn
  have hS := hSn
  clear hPn hDn hSn
  refine lv_pop hx hb dL_law_472 rfl ?_
  refine lv_goto (tgt := 1022) hx hb dL_law_473 (by decide) ?_
  refine W.widen (k := 90 + (nc + 1)) (n := 172225 + 6 * (nc + 1)) (by omega) (by omega) ?_
  exact kk fa_3 lT lL lM l4 l5 ft_3 lB_3 lH lK gn lG lR l1 l2 l3 pr reE laE suE leE lq lp lv ke tl fsh wi ri fm lm lw re7 la7 su7 le7 re8 la8 su8 le8 re9 la9 su9 le9 zt zp zf zh zr zc zy za zb zs zq zw_6 ze_6 zn_6 zm zl_6 zk zd fT fL fM f41 f42 f43 f51 f52 f53 fB_3 fH1 fH2 fK1 fK2 fG1 fG2 f1 f2 f3 fR1 fR2 fR3 fR4 fR5 fR6 fq fp fv fQ1 fQ2 fQ3 fQ4 fw fW1 fW2 fW3 fW4 fW5 fW6 fW7 eT eS eX eL eB eD e1 e2 eR ec1 ec2 ec3 eH eY_6 eE eW eO er1 er2 er3 er4 eZ fJ _ _ _ ⟨g_lT, g_lL, g_lM, hf3_0, g_lH, g_lK, g_gn, g_lG, g_lR, g_l1, g_l2, g_l3, g_lq, g_lp, g_lv, g_ke, g_fsh, g_fm, g_lm, g_lw, g_zt, g_zp, g_zf, g_zh, g_zr, g_zc, g_zy, g_za, g_zb, g_zs, g_zq, hf6_0, g_zm, g_zk, g_fG2, g_eS, g_eX, g_eL, g_eB, g_e1, g_e2, hf6_1, g_eE, g_eW, g_eO, g_eZ, by omega, hrel, hrc, hr4, hr5, hb4, hb5, hlz, hH, hHe, hKz, hT, ho, hal, hCV, hVk, hVr, hTX, hCH, hvc, hfr, hfx, hfs⟩ hP hD hS (lv_sub hl [0, 1, 2, 3, 4] rfl)

end
