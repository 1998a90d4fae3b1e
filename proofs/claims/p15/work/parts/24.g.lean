/-! 50.a.rows -/
section
set_option maxRecDepth 100000 in
theorem dA136_cX12_isCode : kDec cX12_isCode [(0, .iload_n 0, 1), (1, .ifCond .lt 13, 3), (14, .iconst 0, 1), (15, .ireturn, 1), (4, .iload_n 0, 1), (5, .bipush 6, 2), (7, .if_icmp .ge 7, 3), (10, .iconst 1, 1), (11, .goto 4, 3)] = true := by decide +kernel
theorem dX12_isCode_0 : decode cX12_isCode 0 = .ok (.iload_n 0, 1) := kDec_at dA136_cX12_isCode 0 rfl
theorem dX12_isCode_1 : decode cX12_isCode 1 = .ok (.ifCond .lt 13, 3) := kDec_at dA136_cX12_isCode 1 rfl
theorem dX12_isCode_14 : decode cX12_isCode 14 = .ok (.iconst 0, 1) := kDec_at dA136_cX12_isCode 2 rfl
theorem dX12_isCode_15 : decode cX12_isCode 15 = .ok (.ireturn, 1) := kDec_at dA136_cX12_isCode 3 rfl
theorem dX12_isCode_4 : decode cX12_isCode 4 = .ok (.iload_n 0, 1) := kDec_at dA136_cX12_isCode 4 rfl
theorem dX12_isCode_5 : decode cX12_isCode 5 = .ok (.bipush 6, 2) := kDec_at dA136_cX12_isCode 5 rfl
theorem dX12_isCode_7 : decode cX12_isCode 7 = .ok (.if_icmp .ge 7, 3) := kDec_at dA136_cX12_isCode 6 rfl
theorem dX12_isCode_10 : decode cX12_isCode 10 = .ok (.iconst 1, 1) := kDec_at dA136_cX12_isCode 7 rfl
theorem dX12_isCode_11 : decode cX12_isCode 11 = .ok (.goto 4, 3) := kDec_at dA136_cX12_isCode 8 rfl
set_option maxRecDepth 100000 in
theorem dA137_cX12_isLetter : kDec cX12_isLetter [(0, .iload_n 0, 1), (1, .ifCond .lt 25, 3), (26, .iconst 0, 1), (27, .ireturn, 1), (4, .iload_n 0, 1), (5, .ldc 88, 2), (7, .if_icmp .ge 19, 3), (10, .iload_n 0, 1), (11, .ldc 89, 2), (13, .if_icmp .lt 9, 3), (22, .iconst 1, 1), (23, .goto 4, 3), (16, .iload_n 0, 1), (17, .ldc 90, 2), (19, .if_icmp .le 7, 3)] = true := by decide +kernel
theorem dX12_isLetter_0 : decode cX12_isLetter 0 = .ok (.iload_n 0, 1) := kDec_at dA137_cX12_isLetter 0 rfl
theorem dX12_isLetter_1 : decode cX12_isLetter 1 = .ok (.ifCond .lt 25, 3) := kDec_at dA137_cX12_isLetter 1 rfl
theorem dX12_isLetter_26 : decode cX12_isLetter 26 = .ok (.iconst 0, 1) := kDec_at dA137_cX12_isLetter 2 rfl
theorem dX12_isLetter_27 : decode cX12_isLetter 27 = .ok (.ireturn, 1) := kDec_at dA137_cX12_isLetter 3 rfl
theorem dX12_isLetter_4 : decode cX12_isLetter 4 = .ok (.iload_n 0, 1) := kDec_at dA137_cX12_isLetter 4 rfl
theorem dX12_isLetter_5 : decode cX12_isLetter 5 = .ok (.ldc 88, 2) := kDec_at dA137_cX12_isLetter 5 rfl
theorem dX12_isLetter_7 : decode cX12_isLetter 7 = .ok (.if_icmp .ge 19, 3) := kDec_at dA137_cX12_isLetter 6 rfl
theorem dX12_isLetter_10 : decode cX12_isLetter 10 = .ok (.iload_n 0, 1) := kDec_at dA137_cX12_isLetter 7 rfl
theorem dX12_isLetter_11 : decode cX12_isLetter 11 = .ok (.ldc 89, 2) := kDec_at dA137_cX12_isLetter 8 rfl
theorem dX12_isLetter_13 : decode cX12_isLetter 13 = .ok (.if_icmp .lt 9, 3) := kDec_at dA137_cX12_isLetter 9 rfl
theorem dX12_isLetter_22 : decode cX12_isLetter 22 = .ok (.iconst 1, 1) := kDec_at dA137_cX12_isLetter 10 rfl
theorem dX12_isLetter_23 : decode cX12_isLetter 23 = .ok (.goto 4, 3) := kDec_at dA137_cX12_isLetter 11 rfl
theorem dX12_isLetter_16 : decode cX12_isLetter 16 = .ok (.iload_n 0, 1) := kDec_at dA137_cX12_isLetter 12 rfl
theorem dX12_isLetter_17 : decode cX12_isLetter 17 = .ok (.ldc 90, 2) := kDec_at dA137_cX12_isLetter 13 rfl
theorem dX12_isLetter_19 : decode cX12_isLetter 19 = .ok (.if_icmp .le 7, 3) := kDec_at dA137_cX12_isLetter 14 rfl
set_option maxRecDepth 100000 in
theorem dA138_cX12_goesOn : kDec cX12_goesOn [(0, .iload_n 0, 1), (1, .sipush 128, 3), (4, .if_icmp .lt 14, 3), (18, .iconst 0, 1), (19, .ireturn, 1), (7, .iload_n 0, 1), (8, .sipush 192, 3), (11, .if_icmp .ge 7, 3), (14, .iconst 1, 1), (15, .goto 4, 3)] = true := by decide +kernel
theorem dX12_goesOn_0 : decode cX12_goesOn 0 = .ok (.iload_n 0, 1) := kDec_at dA138_cX12_goesOn 0 rfl
theorem dX12_goesOn_1 : decode cX12_goesOn 1 = .ok (.sipush 128, 3) := kDec_at dA138_cX12_goesOn 1 rfl
theorem dX12_goesOn_4 : decode cX12_goesOn 4 = .ok (.if_icmp .lt 14, 3) := kDec_at dA138_cX12_goesOn 2 rfl
theorem dX12_goesOn_18 : decode cX12_goesOn 18 = .ok (.iconst 0, 1) := kDec_at dA138_cX12_goesOn 3 rfl
theorem dX12_goesOn_19 : decode cX12_goesOn 19 = .ok (.ireturn, 1) := kDec_at dA138_cX12_goesOn 4 rfl
theorem dX12_goesOn_7 : decode cX12_goesOn 7 = .ok (.iload_n 0, 1) := kDec_at dA138_cX12_goesOn 5 rfl
theorem dX12_goesOn_8 : decode cX12_goesOn 8 = .ok (.sipush 192, 3) := kDec_at dA138_cX12_goesOn 6 rfl
theorem dX12_goesOn_11 : decode cX12_goesOn 11 = .ok (.if_icmp .ge 7, 3) := kDec_at dA138_cX12_goesOn 7 rfl
theorem dX12_goesOn_14 : decode cX12_goesOn 14 = .ok (.iconst 1, 1) := kDec_at dA138_cX12_goesOn 8 rfl
theorem dX12_goesOn_15 : decode cX12_goesOn 15 = .ok (.goto 4, 3) := kDec_at dA138_cX12_goesOn 9 rfl
set_option maxRecDepth 100000 in
theorem dA139_cX12_put : kDec cX12_put [(0, .aload_n 0, 1), (1, .getfield 58, 3), (4, .aload_n 0, 1), (5, .getfield 91, 3), (8, .iload_n 1, 1), (9, .iastore, 1), (10, .aload_n 0, 1), (11, .dup, 1), (12, .getfield 91, 3), (15, .iconst 1, 1), (16, .iadd, 1), (17, .putfield 91, 3), (20, .return_, 1)] = true := by decide +kernel
theorem dX12_put_0 : decode cX12_put 0 = .ok (.aload_n 0, 1) := kDec_at dA139_cX12_put 0 rfl
theorem dX12_put_1 : decode cX12_put 1 = .ok (.getfield 58, 3) := kDec_at dA139_cX12_put 1 rfl
theorem dX12_put_4 : decode cX12_put 4 = .ok (.aload_n 0, 1) := kDec_at dA139_cX12_put 2 rfl
theorem dX12_put_5 : decode cX12_put 5 = .ok (.getfield 91, 3) := kDec_at dA139_cX12_put 3 rfl
theorem dX12_put_8 : decode cX12_put 8 = .ok (.iload_n 1, 1) := kDec_at dA139_cX12_put 4 rfl
theorem dX12_put_9 : decode cX12_put 9 = .ok (.iastore, 1) := kDec_at dA139_cX12_put 5 rfl
theorem dX12_put_10 : decode cX12_put 10 = .ok (.aload_n 0, 1) := kDec_at dA139_cX12_put 6 rfl
theorem dX12_put_11 : decode cX12_put 11 = .ok (.dup, 1) := kDec_at dA139_cX12_put 7 rfl
theorem dX12_put_12 : decode cX12_put 12 = .ok (.getfield 91, 3) := kDec_at dA139_cX12_put 8 rfl
theorem dX12_put_15 : decode cX12_put 15 = .ok (.iconst 1, 1) := kDec_at dA139_cX12_put 9 rfl
theorem dX12_put_16 : decode cX12_put 16 = .ok (.iadd, 1) := kDec_at dA139_cX12_put 10 rfl
theorem dX12_put_17 : decode cX12_put 17 = .ok (.putfield 91, 3) := kDec_at dA139_cX12_put 11 rfl
theorem dX12_put_20 : decode cX12_put 20 = .ok (.return_, 1) := kDec_at dA139_cX12_put 12 rfl
set_option maxRecDepth 100000 in
theorem dA140_cX12_writeLetter : kDec cX12_writeLetter [(0, .iload_n 1, 1), (1, .iconst 2, 1), (2, .if_icmp .ge 29, 3), (31, .iload_n 1, 1), (32, .iconst 2, 1), (33, .if_icmp .ne 95, 3), (128, .iload_n 1, 1), (129, .iconst 3, 1), (130, .if_icmp .ne 88, 3), (218, .aload_n 0, 1), (219, .getfield 23, 3), (222, .ldc 88, 2), (224, .iload_n 1, 1), (225, .iconst 4, 1), (226, .isub, 1), (227, .imul, 1), (228, .iload_n 2, 1), (229, .iadd, 1), (230, .saload, 1), (231, .istore_n 3, 1), (232, .iload_n 3, 1), (233, .iconst (-1), 1), (234, .if_icmp .ne 5, 3), (239, .aload_n 0, 1)] = true := by decide +kernel
theorem dX12_writeLetter_0 : decode cX12_writeLetter 0 = .ok (.iload_n 1, 1) := kDec_at dA140_cX12_writeLetter 0 rfl
theorem dX12_writeLetter_1 : decode cX12_writeLetter 1 = .ok (.iconst 2, 1) := kDec_at dA140_cX12_writeLetter 1 rfl
theorem dX12_writeLetter_2 : decode cX12_writeLetter 2 = .ok (.if_icmp .ge 29, 3) := kDec_at dA140_cX12_writeLetter 2 rfl
theorem dX12_writeLetter_31 : decode cX12_writeLetter 31 = .ok (.iload_n 1, 1) := kDec_at dA140_cX12_writeLetter 3 rfl
theorem dX12_writeLetter_32 : decode cX12_writeLetter 32 = .ok (.iconst 2, 1) := kDec_at dA140_cX12_writeLetter 4 rfl
theorem dX12_writeLetter_33 : decode cX12_writeLetter 33 = .ok (.if_icmp .ne 95, 3) := kDec_at dA140_cX12_writeLetter 5 rfl
theorem dX12_writeLetter_128 : decode cX12_writeLetter 128 = .ok (.iload_n 1, 1) := kDec_at dA140_cX12_writeLetter 6 rfl
theorem dX12_writeLetter_129 : decode cX12_writeLetter 129 = .ok (.iconst 3, 1) := kDec_at dA140_cX12_writeLetter 7 rfl
theorem dX12_writeLetter_130 : decode cX12_writeLetter 130 = .ok (.if_icmp .ne 88, 3) := kDec_at dA140_cX12_writeLetter 8 rfl
theorem dX12_writeLetter_218 : decode cX12_writeLetter 218 = .ok (.aload_n 0, 1) := kDec_at dA140_cX12_writeLetter 9 rfl
theorem dX12_writeLetter_219 : decode cX12_writeLetter 219 = .ok (.getfield 23, 3) := kDec_at dA140_cX12_writeLetter 10 rfl
theorem dX12_writeLetter_222 : decode cX12_writeLetter 222 = .ok (.ldc 88, 2) := kDec_at dA140_cX12_writeLetter 11 rfl
theorem dX12_writeLetter_224 : decode cX12_writeLetter 224 = .ok (.iload_n 1, 1) := kDec_at dA140_cX12_writeLetter 12 rfl
theorem dX12_writeLetter_225 : decode cX12_writeLetter 225 = .ok (.iconst 4, 1) := kDec_at dA140_cX12_writeLetter 13 rfl
theorem dX12_writeLetter_226 : decode cX12_writeLetter 226 = .ok (.isub, 1) := kDec_at dA140_cX12_writeLetter 14 rfl
theorem dX12_writeLetter_227 : decode cX12_writeLetter 227 = .ok (.imul, 1) := kDec_at dA140_cX12_writeLetter 15 rfl
theorem dX12_writeLetter_228 : decode cX12_writeLetter 228 = .ok (.iload_n 2, 1) := kDec_at dA140_cX12_writeLetter 16 rfl
theorem dX12_writeLetter_229 : decode cX12_writeLetter 229 = .ok (.iadd, 1) := kDec_at dA140_cX12_writeLetter 17 rfl
theorem dX12_writeLetter_230 : decode cX12_writeLetter 230 = .ok (.saload, 1) := kDec_at dA140_cX12_writeLetter 18 rfl
theorem dX12_writeLetter_231 : decode cX12_writeLetter 231 = .ok (.istore_n 3, 1) := kDec_at dA140_cX12_writeLetter 19 rfl
theorem dX12_writeLetter_232 : decode cX12_writeLetter 232 = .ok (.iload_n 3, 1) := kDec_at dA140_cX12_writeLetter 20 rfl
theorem dX12_writeLetter_233 : decode cX12_writeLetter 233 = .ok (.iconst (-1), 1) := kDec_at dA140_cX12_writeLetter 21 rfl
theorem dX12_writeLetter_234 : decode cX12_writeLetter 234 = .ok (.if_icmp .ne 5, 3) := kDec_at dA140_cX12_writeLetter 22 rfl
theorem dX12_writeLetter_239 : decode cX12_writeLetter 239 = .ok (.aload_n 0, 1) := kDec_at dA140_cX12_writeLetter 23 rfl
set_option maxRecDepth 100000 in
theorem dA141_cX12_writeLetter : kDec cX12_writeLetter [(240, .iload_n 3, 1), (241, .invokevirtual 94, 3), (244, .iconst 1, 1), (245, .ireturn, 1), (237, .iconst 0, 1), (238, .ireturn, 1), (133, .iload_n 2, 1), (134, .sipush 128, 3), (137, .if_icmp .ge 17, 3), (154, .aload_n 0, 1), (155, .bipush 38, 2), (157, .invokevirtual 94, 3), (160, .aload_n 0, 1), (161, .bipush 35, 2), (163, .invokevirtual 94, 3), (166, .iconst 1, 1), (167, .istore_n 3, 1), (168, .iload_n 2, 1), (169, .iload_n 3, 1), (170, .idiv, 1), (171, .bipush 10, 2), (173, .if_icmp .lt 11, 3), (176, .iload_n 3, 1), (177, .bipush 10, 2)] = true := by decide +kernel
theorem dX12_writeLetter_240 : decode cX12_writeLetter 240 = .ok (.iload_n 3, 1) := kDec_at dA141_cX12_writeLetter 0 rfl
theorem dX12_writeLetter_241 : decode cX12_writeLetter 241 = .ok (.invokevirtual 94, 3) := kDec_at dA141_cX12_writeLetter 1 rfl
theorem dX12_writeLetter_244 : decode cX12_writeLetter 244 = .ok (.iconst 1, 1) := kDec_at dA141_cX12_writeLetter 2 rfl
theorem dX12_writeLetter_245 : decode cX12_writeLetter 245 = .ok (.ireturn, 1) := kDec_at dA141_cX12_writeLetter 3 rfl
theorem dX12_writeLetter_237 : decode cX12_writeLetter 237 = .ok (.iconst 0, 1) := kDec_at dA141_cX12_writeLetter 4 rfl
theorem dX12_writeLetter_238 : decode cX12_writeLetter 238 = .ok (.ireturn, 1) := kDec_at dA141_cX12_writeLetter 5 rfl
theorem dX12_writeLetter_133 : decode cX12_writeLetter 133 = .ok (.iload_n 2, 1) := kDec_at dA141_cX12_writeLetter 6 rfl
theorem dX12_writeLetter_134 : decode cX12_writeLetter 134 = .ok (.sipush 128, 3) := kDec_at dA141_cX12_writeLetter 7 rfl
theorem dX12_writeLetter_137 : decode cX12_writeLetter 137 = .ok (.if_icmp .ge 17, 3) := kDec_at dA141_cX12_writeLetter 8 rfl
theorem dX12_writeLetter_154 : decode cX12_writeLetter 154 = .ok (.aload_n 0, 1) := kDec_at dA141_cX12_writeLetter 9 rfl
theorem dX12_writeLetter_155 : decode cX12_writeLetter 155 = .ok (.bipush 38, 2) := kDec_at dA141_cX12_writeLetter 10 rfl
theorem dX12_writeLetter_157 : decode cX12_writeLetter 157 = .ok (.invokevirtual 94, 3) := kDec_at dA141_cX12_writeLetter 11 rfl
theorem dX12_writeLetter_160 : decode cX12_writeLetter 160 = .ok (.aload_n 0, 1) := kDec_at dA141_cX12_writeLetter 12 rfl
theorem dX12_writeLetter_161 : decode cX12_writeLetter 161 = .ok (.bipush 35, 2) := kDec_at dA141_cX12_writeLetter 13 rfl
theorem dX12_writeLetter_163 : decode cX12_writeLetter 163 = .ok (.invokevirtual 94, 3) := kDec_at dA141_cX12_writeLetter 14 rfl
theorem dX12_writeLetter_166 : decode cX12_writeLetter 166 = .ok (.iconst 1, 1) := kDec_at dA141_cX12_writeLetter 15 rfl
theorem dX12_writeLetter_167 : decode cX12_writeLetter 167 = .ok (.istore_n 3, 1) := kDec_at dA141_cX12_writeLetter 16 rfl
theorem dX12_writeLetter_168 : decode cX12_writeLetter 168 = .ok (.iload_n 2, 1) := kDec_at dA141_cX12_writeLetter 17 rfl
theorem dX12_writeLetter_169 : decode cX12_writeLetter 169 = .ok (.iload_n 3, 1) := kDec_at dA141_cX12_writeLetter 18 rfl
theorem dX12_writeLetter_170 : decode cX12_writeLetter 170 = .ok (.idiv, 1) := kDec_at dA141_cX12_writeLetter 19 rfl
theorem dX12_writeLetter_171 : decode cX12_writeLetter 171 = .ok (.bipush 10, 2) := kDec_at dA141_cX12_writeLetter 20 rfl
theorem dX12_writeLetter_173 : decode cX12_writeLetter 173 = .ok (.if_icmp .lt 11, 3) := kDec_at dA141_cX12_writeLetter 21 rfl
theorem dX12_writeLetter_176 : decode cX12_writeLetter 176 = .ok (.iload_n 3, 1) := kDec_at dA141_cX12_writeLetter 22 rfl
theorem dX12_writeLetter_177 : decode cX12_writeLetter 177 = .ok (.bipush 10, 2) := kDec_at dA141_cX12_writeLetter 23 rfl
set_option maxRecDepth 20000 in
theorem ggX12_writeLetter_X12_put : GoodIn wsX12_writeLetter wsX12_put := goodIn_r _ [7, 8, 9, 10, 11, 12, 13, 14, 15, 16, 17, 18, 19, 20, 21, 22, 23, 24, 25, 26, 27, 28, 29, 30, 31, 32, 33, 34, 35, 36, 37, 38, 39, 40, 41, 42, 43, 44, 45, 46, 47, 48, 49] rfl (by decide +kernel)
set_option maxRecDepth 20000 in
theorem gX12_writeLetter_X12_put : GoodIn wsX12_writeLetter (wsV RX12 94 RX12 yX12_put wsX12_put) := goodIn_app (goodIn_r _ [3, 4, 5, 6] rfl (by decide +kernel)) ggX12_writeLetter_X12_put
set_option maxRecDepth 100000 in
theorem dA142_cX12_writeLetter : kDec cX12_writeLetter [(179, .imul, 1), (180, .istore_n 3, 1), (181, .goto (-13), 3), (184, .iload_n 3, 1), (185, .ifCond .le 24, 3), (188, .aload_n 0, 1), (189, .bipush 48, 2), (191, .iload_n 2, 1), (192, .iload_n 3, 1), (193, .idiv, 1), (194, .bipush 10, 2), (196, .irem, 1), (197, .iadd, 1), (198, .invokevirtual 94, 3), (201, .iload_n 3, 1), (202, .bipush 10, 2), (204, .idiv, 1), (205, .istore_n 3, 1), (206, .goto (-22), 3), (209, .aload_n 0, 1), (210, .bipush 59, 2), (212, .invokevirtual 94, 3), (215, .goto 29, 3), (140, .iload_n 2, 1)] = true := by decide +kernel
theorem dX12_writeLetter_179 : decode cX12_writeLetter 179 = .ok (.imul, 1) := kDec_at dA142_cX12_writeLetter 0 rfl
theorem dX12_writeLetter_180 : decode cX12_writeLetter 180 = .ok (.istore_n 3, 1) := kDec_at dA142_cX12_writeLetter 1 rfl
theorem dX12_writeLetter_181 : decode cX12_writeLetter 181 = .ok (.goto (-13), 3) := kDec_at dA142_cX12_writeLetter 2 rfl
theorem dX12_writeLetter_184 : decode cX12_writeLetter 184 = .ok (.iload_n 3, 1) := kDec_at dA142_cX12_writeLetter 3 rfl
theorem dX12_writeLetter_185 : decode cX12_writeLetter 185 = .ok (.ifCond .le 24, 3) := kDec_at dA142_cX12_writeLetter 4 rfl
theorem dX12_writeLetter_188 : decode cX12_writeLetter 188 = .ok (.aload_n 0, 1) := kDec_at dA142_cX12_writeLetter 5 rfl
theorem dX12_writeLetter_189 : decode cX12_writeLetter 189 = .ok (.bipush 48, 2) := kDec_at dA142_cX12_writeLetter 6 rfl
theorem dX12_writeLetter_191 : decode cX12_writeLetter 191 = .ok (.iload_n 2, 1) := kDec_at dA142_cX12_writeLetter 7 rfl
theorem dX12_writeLetter_192 : decode cX12_writeLetter 192 = .ok (.iload_n 3, 1) := kDec_at dA142_cX12_writeLetter 8 rfl
theorem dX12_writeLetter_193 : decode cX12_writeLetter 193 = .ok (.idiv, 1) := kDec_at dA142_cX12_writeLetter 9 rfl
theorem dX12_writeLetter_194 : decode cX12_writeLetter 194 = .ok (.bipush 10, 2) := kDec_at dA142_cX12_writeLetter 10 rfl
theorem dX12_writeLetter_196 : decode cX12_writeLetter 196 = .ok (.irem, 1) := kDec_at dA142_cX12_writeLetter 11 rfl
theorem dX12_writeLetter_197 : decode cX12_writeLetter 197 = .ok (.iadd, 1) := kDec_at dA142_cX12_writeLetter 12 rfl
theorem dX12_writeLetter_198 : decode cX12_writeLetter 198 = .ok (.invokevirtual 94, 3) := kDec_at dA142_cX12_writeLetter 13 rfl
theorem dX12_writeLetter_201 : decode cX12_writeLetter 201 = .ok (.iload_n 3, 1) := kDec_at dA142_cX12_writeLetter 14 rfl
theorem dX12_writeLetter_202 : decode cX12_writeLetter 202 = .ok (.bipush 10, 2) := kDec_at dA142_cX12_writeLetter 15 rfl
theorem dX12_writeLetter_204 : decode cX12_writeLetter 204 = .ok (.idiv, 1) := kDec_at dA142_cX12_writeLetter 16 rfl
theorem dX12_writeLetter_205 : decode cX12_writeLetter 205 = .ok (.istore_n 3, 1) := kDec_at dA142_cX12_writeLetter 17 rfl
theorem dX12_writeLetter_206 : decode cX12_writeLetter 206 = .ok (.goto (-22), 3) := kDec_at dA142_cX12_writeLetter 18 rfl
theorem dX12_writeLetter_209 : decode cX12_writeLetter 209 = .ok (.aload_n 0, 1) := kDec_at dA142_cX12_writeLetter 19 rfl
theorem dX12_writeLetter_210 : decode cX12_writeLetter 210 = .ok (.bipush 59, 2) := kDec_at dA142_cX12_writeLetter 20 rfl
theorem dX12_writeLetter_212 : decode cX12_writeLetter 212 = .ok (.invokevirtual 94, 3) := kDec_at dA142_cX12_writeLetter 21 rfl
theorem dX12_writeLetter_215 : decode cX12_writeLetter 215 = .ok (.goto 29, 3) := kDec_at dA142_cX12_writeLetter 22 rfl
theorem dX12_writeLetter_140 : decode cX12_writeLetter 140 = .ok (.iload_n 2, 1) := kDec_at dA142_cX12_writeLetter 23 rfl
set_option maxRecDepth 100000 in
theorem dA143_cX12_writeLetter : kDec cX12_writeLetter [(141, .bipush 38, 2), (143, .if_icmp .eq 11, 3), (146, .aload_n 0, 1), (147, .iload_n 2, 1), (148, .invokevirtual 94, 3), (151, .goto 93, 3), (36, .iload_n 2, 1), (37, .sipush 128, 3), (40, .if_icmp .ge 11, 3), (51, .iload_n 2, 1), (52, .sipush 2048, 3), (55, .if_icmp .ge 30, 3), (85, .aload_n 0, 1), (86, .sipush 224, 3), (89, .iload_n 2, 1), (90, .sipush 4096, 3), (93, .idiv, 1), (94, .iadd, 1), (95, .invokevirtual 94, 3), (98, .aload_n 0, 1), (99, .sipush 128, 3), (102, .iload_n 2, 1), (103, .bipush 64, 2), (105, .idiv, 1)] = true := by decide +kernel
theorem dX12_writeLetter_141 : decode cX12_writeLetter 141 = .ok (.bipush 38, 2) := kDec_at dA143_cX12_writeLetter 0 rfl
theorem dX12_writeLetter_143 : decode cX12_writeLetter 143 = .ok (.if_icmp .eq 11, 3) := kDec_at dA143_cX12_writeLetter 1 rfl
theorem dX12_writeLetter_146 : decode cX12_writeLetter 146 = .ok (.aload_n 0, 1) := kDec_at dA143_cX12_writeLetter 2 rfl
theorem dX12_writeLetter_147 : decode cX12_writeLetter 147 = .ok (.iload_n 2, 1) := kDec_at dA143_cX12_writeLetter 3 rfl
theorem dX12_writeLetter_148 : decode cX12_writeLetter 148 = .ok (.invokevirtual 94, 3) := kDec_at dA143_cX12_writeLetter 4 rfl
theorem dX12_writeLetter_151 : decode cX12_writeLetter 151 = .ok (.goto 93, 3) := kDec_at dA143_cX12_writeLetter 5 rfl
theorem dX12_writeLetter_36 : decode cX12_writeLetter 36 = .ok (.iload_n 2, 1) := kDec_at dA143_cX12_writeLetter 6 rfl
theorem dX12_writeLetter_37 : decode cX12_writeLetter 37 = .ok (.sipush 128, 3) := kDec_at dA143_cX12_writeLetter 7 rfl
theorem dX12_writeLetter_40 : decode cX12_writeLetter 40 = .ok (.if_icmp .ge 11, 3) := kDec_at dA143_cX12_writeLetter 8 rfl
theorem dX12_writeLetter_51 : decode cX12_writeLetter 51 = .ok (.iload_n 2, 1) := kDec_at dA143_cX12_writeLetter 9 rfl
theorem dX12_writeLetter_52 : decode cX12_writeLetter 52 = .ok (.sipush 2048, 3) := kDec_at dA143_cX12_writeLetter 10 rfl
theorem dX12_writeLetter_55 : decode cX12_writeLetter 55 = .ok (.if_icmp .ge 30, 3) := kDec_at dA143_cX12_writeLetter 11 rfl
theorem dX12_writeLetter_85 : decode cX12_writeLetter 85 = .ok (.aload_n 0, 1) := kDec_at dA143_cX12_writeLetter 12 rfl
theorem dX12_writeLetter_86 : decode cX12_writeLetter 86 = .ok (.sipush 224, 3) := kDec_at dA143_cX12_writeLetter 13 rfl
theorem dX12_writeLetter_89 : decode cX12_writeLetter 89 = .ok (.iload_n 2, 1) := kDec_at dA143_cX12_writeLetter 14 rfl
theorem dX12_writeLetter_90 : decode cX12_writeLetter 90 = .ok (.sipush 4096, 3) := kDec_at dA143_cX12_writeLetter 15 rfl
theorem dX12_writeLetter_93 : decode cX12_writeLetter 93 = .ok (.idiv, 1) := kDec_at dA143_cX12_writeLetter 16 rfl
theorem dX12_writeLetter_94 : decode cX12_writeLetter 94 = .ok (.iadd, 1) := kDec_at dA143_cX12_writeLetter 17 rfl
theorem dX12_writeLetter_95 : decode cX12_writeLetter 95 = .ok (.invokevirtual 94, 3) := kDec_at dA143_cX12_writeLetter 18 rfl
theorem dX12_writeLetter_98 : decode cX12_writeLetter 98 = .ok (.aload_n 0, 1) := kDec_at dA143_cX12_writeLetter 19 rfl
theorem dX12_writeLetter_99 : decode cX12_writeLetter 99 = .ok (.sipush 128, 3) := kDec_at dA143_cX12_writeLetter 20 rfl
theorem dX12_writeLetter_102 : decode cX12_writeLetter 102 = .ok (.iload_n 2, 1) := kDec_at dA143_cX12_writeLetter 21 rfl
theorem dX12_writeLetter_103 : decode cX12_writeLetter 103 = .ok (.bipush 64, 2) := kDec_at dA143_cX12_writeLetter 22 rfl
theorem dX12_writeLetter_105 : decode cX12_writeLetter 105 = .ok (.idiv, 1) := kDec_at dA143_cX12_writeLetter 23 rfl
set_option maxRecDepth 100000 in
theorem dA144_cX12_writeLetter : kDec cX12_writeLetter [(106, .bipush 64, 2), (108, .irem, 1), (109, .iadd, 1), (110, .invokevirtual 94, 3), (113, .aload_n 0, 1), (114, .sipush 128, 3), (117, .iload_n 2, 1), (118, .bipush 64, 2), (120, .irem, 1), (121, .iadd, 1), (122, .invokevirtual 94, 3), (125, .goto 119, 3), (58, .aload_n 0, 1), (59, .sipush 192, 3), (62, .iload_n 2, 1), (63, .bipush 64, 2), (65, .idiv, 1), (66, .iadd, 1), (67, .invokevirtual 94, 3), (70, .aload_n 0, 1), (71, .sipush 128, 3), (74, .iload_n 2, 1), (75, .bipush 64, 2), (77, .irem, 1)] = true := by decide +kernel
theorem dX12_writeLetter_106 : decode cX12_writeLetter 106 = .ok (.bipush 64, 2) := kDec_at dA144_cX12_writeLetter 0 rfl
theorem dX12_writeLetter_108 : decode cX12_writeLetter 108 = .ok (.irem, 1) := kDec_at dA144_cX12_writeLetter 1 rfl
theorem dX12_writeLetter_109 : decode cX12_writeLetter 109 = .ok (.iadd, 1) := kDec_at dA144_cX12_writeLetter 2 rfl
theorem dX12_writeLetter_110 : decode cX12_writeLetter 110 = .ok (.invokevirtual 94, 3) := kDec_at dA144_cX12_writeLetter 3 rfl
theorem dX12_writeLetter_113 : decode cX12_writeLetter 113 = .ok (.aload_n 0, 1) := kDec_at dA144_cX12_writeLetter 4 rfl
theorem dX12_writeLetter_114 : decode cX12_writeLetter 114 = .ok (.sipush 128, 3) := kDec_at dA144_cX12_writeLetter 5 rfl
theorem dX12_writeLetter_117 : decode cX12_writeLetter 117 = .ok (.iload_n 2, 1) := kDec_at dA144_cX12_writeLetter 6 rfl
theorem dX12_writeLetter_118 : decode cX12_writeLetter 118 = .ok (.bipush 64, 2) := kDec_at dA144_cX12_writeLetter 7 rfl
theorem dX12_writeLetter_120 : decode cX12_writeLetter 120 = .ok (.irem, 1) := kDec_at dA144_cX12_writeLetter 8 rfl
theorem dX12_writeLetter_121 : decode cX12_writeLetter 121 = .ok (.iadd, 1) := kDec_at dA144_cX12_writeLetter 9 rfl
theorem dX12_writeLetter_122 : decode cX12_writeLetter 122 = .ok (.invokevirtual 94, 3) := kDec_at dA144_cX12_writeLetter 10 rfl
theorem dX12_writeLetter_125 : decode cX12_writeLetter 125 = .ok (.goto 119, 3) := kDec_at dA144_cX12_writeLetter 11 rfl
theorem dX12_writeLetter_58 : decode cX12_writeLetter 58 = .ok (.aload_n 0, 1) := kDec_at dA144_cX12_writeLetter 12 rfl
theorem dX12_writeLetter_59 : decode cX12_writeLetter 59 = .ok (.sipush 192, 3) := kDec_at dA144_cX12_writeLetter 13 rfl
theorem dX12_writeLetter_62 : decode cX12_writeLetter 62 = .ok (.iload_n 2, 1) := kDec_at dA144_cX12_writeLetter 14 rfl
theorem dX12_writeLetter_63 : decode cX12_writeLetter 63 = .ok (.bipush 64, 2) := kDec_at dA144_cX12_writeLetter 15 rfl
theorem dX12_writeLetter_65 : decode cX12_writeLetter 65 = .ok (.idiv, 1) := kDec_at dA144_cX12_writeLetter 16 rfl
theorem dX12_writeLetter_66 : decode cX12_writeLetter 66 = .ok (.iadd, 1) := kDec_at dA144_cX12_writeLetter 17 rfl
theorem dX12_writeLetter_67 : decode cX12_writeLetter 67 = .ok (.invokevirtual 94, 3) := kDec_at dA144_cX12_writeLetter 18 rfl
theorem dX12_writeLetter_70 : decode cX12_writeLetter 70 = .ok (.aload_n 0, 1) := kDec_at dA144_cX12_writeLetter 19 rfl
theorem dX12_writeLetter_71 : decode cX12_writeLetter 71 = .ok (.sipush 128, 3) := kDec_at dA144_cX12_writeLetter 20 rfl
theorem dX12_writeLetter_74 : decode cX12_writeLetter 74 = .ok (.iload_n 2, 1) := kDec_at dA144_cX12_writeLetter 21 rfl
theorem dX12_writeLetter_75 : decode cX12_writeLetter 75 = .ok (.bipush 64, 2) := kDec_at dA144_cX12_writeLetter 22 rfl
theorem dX12_writeLetter_77 : decode cX12_writeLetter 77 = .ok (.irem, 1) := kDec_at dA144_cX12_writeLetter 23 rfl
set_option maxRecDepth 100000 in
theorem dA145_cX12_writeLetter : kDec cX12_writeLetter [(78, .iadd, 1), (79, .invokevirtual 94, 3), (82, .goto 162, 3), (43, .aload_n 0, 1), (44, .iload_n 2, 1), (45, .invokevirtual 94, 3), (48, .goto 196, 3), (5, .iload_n 2, 1), (6, .iload_n 1, 1), (7, .ifCond .ne 8, 3), (15, .sipush 255, 3), (18, .if_icmp .le 5, 3), (23, .aload_n 0, 1), (24, .iload_n 2, 1), (25, .invokevirtual 94, 3), (28, .goto 216, 3), (21, .iconst 0, 1), (22, .ireturn, 1), (10, .bipush 127, 2), (12, .goto 6, 3)] = true := by decide +kernel
theorem dX12_writeLetter_78 : decode cX12_writeLetter 78 = .ok (.iadd, 1) := kDec_at dA145_cX12_writeLetter 0 rfl
theorem dX12_writeLetter_79 : decode cX12_writeLetter 79 = .ok (.invokevirtual 94, 3) := kDec_at dA145_cX12_writeLetter 1 rfl
theorem dX12_writeLetter_82 : decode cX12_writeLetter 82 = .ok (.goto 162, 3) := kDec_at dA145_cX12_writeLetter 2 rfl
theorem dX12_writeLetter_43 : decode cX12_writeLetter 43 = .ok (.aload_n 0, 1) := kDec_at dA145_cX12_writeLetter 3 rfl
theorem dX12_writeLetter_44 : decode cX12_writeLetter 44 = .ok (.iload_n 2, 1) := kDec_at dA145_cX12_writeLetter 4 rfl
theorem dX12_writeLetter_45 : decode cX12_writeLetter 45 = .ok (.invokevirtual 94, 3) := kDec_at dA145_cX12_writeLetter 5 rfl
theorem dX12_writeLetter_48 : decode cX12_writeLetter 48 = .ok (.goto 196, 3) := kDec_at dA145_cX12_writeLetter 6 rfl
theorem dX12_writeLetter_5 : decode cX12_writeLetter 5 = .ok (.iload_n 2, 1) := kDec_at dA145_cX12_writeLetter 7 rfl
theorem dX12_writeLetter_6 : decode cX12_writeLetter 6 = .ok (.iload_n 1, 1) := kDec_at dA145_cX12_writeLetter 8 rfl
theorem dX12_writeLetter_7 : decode cX12_writeLetter 7 = .ok (.ifCond .ne 8, 3) := kDec_at dA145_cX12_writeLetter 9 rfl
theorem dX12_writeLetter_15 : decode cX12_writeLetter 15 = .ok (.sipush 255, 3) := kDec_at dA145_cX12_writeLetter 10 rfl
theorem dX12_writeLetter_18 : decode cX12_writeLetter 18 = .ok (.if_icmp .le 5, 3) := kDec_at dA145_cX12_writeLetter 11 rfl
theorem dX12_writeLetter_23 : decode cX12_writeLetter 23 = .ok (.aload_n 0, 1) := kDec_at dA145_cX12_writeLetter 12 rfl
theorem dX12_writeLetter_24 : decode cX12_writeLetter 24 = .ok (.iload_n 2, 1) := kDec_at dA145_cX12_writeLetter 13 rfl
theorem dX12_writeLetter_25 : decode cX12_writeLetter 25 = .ok (.invokevirtual 94, 3) := kDec_at dA145_cX12_writeLetter 14 rfl
theorem dX12_writeLetter_28 : decode cX12_writeLetter 28 = .ok (.goto 216, 3) := kDec_at dA145_cX12_writeLetter 15 rfl
theorem dX12_writeLetter_21 : decode cX12_writeLetter 21 = .ok (.iconst 0, 1) := kDec_at dA145_cX12_writeLetter 16 rfl
theorem dX12_writeLetter_22 : decode cX12_writeLetter 22 = .ok (.ireturn, 1) := kDec_at dA145_cX12_writeLetter 17 rfl
theorem dX12_writeLetter_10 : decode cX12_writeLetter 10 = .ok (.bipush 127, 2) := kDec_at dA145_cX12_writeLetter 18 rfl
theorem dX12_writeLetter_12 : decode cX12_writeLetter 12 = .ok (.goto 6, 3) := kDec_at dA145_cX12_writeLetter 19 rfl
set_option maxRecDepth 100000 in
theorem dA146_cX12_write : kDec cX12_write [(0, .aload_n 0, 1), (1, .iconst 0, 1), (2, .putfield 91, 3), (5, .iconst 0, 1), (6, .istore 4, 2), (8, .iload 4, 2), (10, .iload_n 3, 1), (11, .if_icmp .ge 29, 3), (40, .iconst 1, 1), (41, .ireturn, 1), (14, .aload_n 0, 1), (15, .iload_n 1, 1), (16, .aload_n 2, 1), (17, .iload 4, 2), (19, .iaload, 1), (20, .invokevirtual 98, 3), (23, .ifCond .ne 11, 3), (34, .iinc 4 1, 3), (37, .goto (-29), 3), (26, .aload_n 0, 1), (27, .iload 4, 2), (29, .putfield 102, 3), (32, .iconst 0, 1), (33, .ireturn, 1)] = true := by decide +kernel
theorem dX12_write_0 : decode cX12_write 0 = .ok (.aload_n 0, 1) := kDec_at dA146_cX12_write 0 rfl
theorem dX12_write_1 : decode cX12_write 1 = .ok (.iconst 0, 1) := kDec_at dA146_cX12_write 1 rfl
theorem dX12_write_2 : decode cX12_write 2 = .ok (.putfield 91, 3) := kDec_at dA146_cX12_write 2 rfl
theorem dX12_write_5 : decode cX12_write 5 = .ok (.iconst 0, 1) := kDec_at dA146_cX12_write 3 rfl
theorem dX12_write_6 : decode cX12_write 6 = .ok (.istore 4, 2) := kDec_at dA146_cX12_write 4 rfl
theorem dX12_write_8 : decode cX12_write 8 = .ok (.iload 4, 2) := kDec_at dA146_cX12_write 5 rfl
theorem dX12_write_10 : decode cX12_write 10 = .ok (.iload_n 3, 1) := kDec_at dA146_cX12_write 6 rfl
theorem dX12_write_11 : decode cX12_write 11 = .ok (.if_icmp .ge 29, 3) := kDec_at dA146_cX12_write 7 rfl
theorem dX12_write_40 : decode cX12_write 40 = .ok (.iconst 1, 1) := kDec_at dA146_cX12_write 8 rfl
theorem dX12_write_41 : decode cX12_write 41 = .ok (.ireturn, 1) := kDec_at dA146_cX12_write 9 rfl
theorem dX12_write_14 : decode cX12_write 14 = .ok (.aload_n 0, 1) := kDec_at dA146_cX12_write 10 rfl
theorem dX12_write_15 : decode cX12_write 15 = .ok (.iload_n 1, 1) := kDec_at dA146_cX12_write 11 rfl
theorem dX12_write_16 : decode cX12_write 16 = .ok (.aload_n 2, 1) := kDec_at dA146_cX12_write 12 rfl
theorem dX12_write_17 : decode cX12_write 17 = .ok (.iload 4, 2) := kDec_at dA146_cX12_write 13 rfl
theorem dX12_write_19 : decode cX12_write 19 = .ok (.iaload, 1) := kDec_at dA146_cX12_write 14 rfl
theorem dX12_write_20 : decode cX12_write 20 = .ok (.invokevirtual 98, 3) := kDec_at dA146_cX12_write 15 rfl
theorem dX12_write_23 : decode cX12_write 23 = .ok (.ifCond .ne 11, 3) := kDec_at dA146_cX12_write 16 rfl
theorem dX12_write_34 : decode cX12_write 34 = .ok (.iinc 4 1, 3) := kDec_at dA146_cX12_write 17 rfl
theorem dX12_write_37 : decode cX12_write 37 = .ok (.goto (-29), 3) := kDec_at dA146_cX12_write 18 rfl
theorem dX12_write_26 : decode cX12_write 26 = .ok (.aload_n 0, 1) := kDec_at dA146_cX12_write 19 rfl
theorem dX12_write_27 : decode cX12_write 27 = .ok (.iload 4, 2) := kDec_at dA146_cX12_write 20 rfl
theorem dX12_write_29 : decode cX12_write 29 = .ok (.putfield 102, 3) := kDec_at dA146_cX12_write 21 rfl
theorem dX12_write_32 : decode cX12_write 32 = .ok (.iconst 0, 1) := kDec_at dA146_cX12_write 22 rfl
theorem dX12_write_33 : decode cX12_write 33 = .ok (.ireturn, 1) := kDec_at dA146_cX12_write 23 rfl
set_option maxRecDepth 20000 in
theorem ggX12_write_X12_writeLetter : GoodIn wsX12_write wsX12_writeLetter := goodIn_r _ [7, 8, 9, 10, 11, 12, 6, 13, 14, 1, 15, 16, 17, 18, 19, 20, 21, 22, 23, 24, 25, 26, 27, 28, 29, 30, 31, 32, 33, 34, 35, 36, 37, 38, 39, 40, 41, 42, 43, 44, 45, 46, 47, 48, 49, 50, 51, 52, 53, 54] rfl (by decide +kernel)
set_option maxRecDepth 20000 in
theorem gX12_write_X12_writeLetter : GoodIn wsX12_write (wsV RX12 98 RX12 yX12_writeLetter wsX12_writeLetter) := goodIn_app (goodIn_r _ [3, 4, 5, 6] rfl (by decide +kernel)) ggX12_write_X12_writeLetter
set_option maxRecDepth 100000 in
theorem dA147_cX12_byteAt : kDec cX12_byteAt [(0, .iload_n 1, 1), (1, .aload_n 0, 1), (2, .getfield 91, 3), (5, .if_icmp .ge 12, 3), (17, .iconst (-1), 1), (18, .ireturn, 1), (8, .aload_n 0, 1), (9, .getfield 58, 3), (12, .iload_n 1, 1), (13, .iaload, 1), (14, .goto 4, 3)] = true := by decide +kernel
theorem dX12_byteAt_0 : decode cX12_byteAt 0 = .ok (.iload_n 1, 1) := kDec_at dA147_cX12_byteAt 0 rfl
theorem dX12_byteAt_1 : decode cX12_byteAt 1 = .ok (.aload_n 0, 1) := kDec_at dA147_cX12_byteAt 1 rfl
theorem dX12_byteAt_2 : decode cX12_byteAt 2 = .ok (.getfield 91, 3) := kDec_at dA147_cX12_byteAt 2 rfl
theorem dX12_byteAt_5 : decode cX12_byteAt 5 = .ok (.if_icmp .ge 12, 3) := kDec_at dA147_cX12_byteAt 3 rfl
theorem dX12_byteAt_17 : decode cX12_byteAt 17 = .ok (.iconst (-1), 1) := kDec_at dA147_cX12_byteAt 4 rfl
theorem dX12_byteAt_18 : decode cX12_byteAt 18 = .ok (.ireturn, 1) := kDec_at dA147_cX12_byteAt 5 rfl
theorem dX12_byteAt_8 : decode cX12_byteAt 8 = .ok (.aload_n 0, 1) := kDec_at dA147_cX12_byteAt 6 rfl
theorem dX12_byteAt_9 : decode cX12_byteAt 9 = .ok (.getfield 58, 3) := kDec_at dA147_cX12_byteAt 7 rfl
theorem dX12_byteAt_12 : decode cX12_byteAt 12 = .ok (.iload_n 1, 1) := kDec_at dA147_cX12_byteAt 8 rfl
theorem dX12_byteAt_13 : decode cX12_byteAt 13 = .ok (.iaload, 1) := kDec_at dA147_cX12_byteAt 9 rfl
theorem dX12_byteAt_14 : decode cX12_byteAt 14 = .ok (.goto 4, 3) := kDec_at dA147_cX12_byteAt 10 rfl
set_option maxRecDepth 100000 in
theorem dA148_cX12_readAt : kDec cX12_readAt [(0, .aload_n 0, 1), (1, .getfield 58, 3), (4, .iload_n 2, 1), (5, .iaload, 1), (6, .istore_n 3, 1), (7, .aload_n 0, 1), (8, .iload_n 3, 1), (9, .putfield 105, 3), (12, .iload_n 1, 1), (13, .iconst 2, 1), (14, .if_icmp .ge 25, 3), (39, .iload_n 1, 1), (40, .iconst 3, 1), (41, .if_icmp .le 35, 3), (76, .iload_n 3, 1), (77, .bipush 127, 2), (79, .if_icmp .le 10, 3), (89, .iload_n 3, 1), (90, .sipush 128, 3), (93, .if_icmp .ge 16, 3), (96, .iload_n 1, 1), (97, .iconst 2, 1), (98, .if_icmp .eq 9, 3), (107, .iconst 1, 1)] = true := by decide +kernel
theorem dX12_readAt_0 : decode cX12_readAt 0 = .ok (.aload_n 0, 1) := kDec_at dA148_cX12_readAt 0 rfl
theorem dX12_readAt_1 : decode cX12_readAt 1 = .ok (.getfield 58, 3) := kDec_at dA148_cX12_readAt 1 rfl
theorem dX12_readAt_4 : decode cX12_readAt 4 = .ok (.iload_n 2, 1) := kDec_at dA148_cX12_readAt 2 rfl
theorem dX12_readAt_5 : decode cX12_readAt 5 = .ok (.iaload, 1) := kDec_at dA148_cX12_readAt 3 rfl
theorem dX12_readAt_6 : decode cX12_readAt 6 = .ok (.istore_n 3, 1) := kDec_at dA148_cX12_readAt 4 rfl
theorem dX12_readAt_7 : decode cX12_readAt 7 = .ok (.aload_n 0, 1) := kDec_at dA148_cX12_readAt 5 rfl
theorem dX12_readAt_8 : decode cX12_readAt 8 = .ok (.iload_n 3, 1) := kDec_at dA148_cX12_readAt 6 rfl
theorem dX12_readAt_9 : decode cX12_readAt 9 = .ok (.putfield 105, 3) := kDec_at dA148_cX12_readAt 7 rfl
theorem dX12_readAt_12 : decode cX12_readAt 12 = .ok (.iload_n 1, 1) := kDec_at dA148_cX12_readAt 8 rfl
theorem dX12_readAt_13 : decode cX12_readAt 13 = .ok (.iconst 2, 1) := kDec_at dA148_cX12_readAt 9 rfl
theorem dX12_readAt_14 : decode cX12_readAt 14 = .ok (.if_icmp .ge 25, 3) := kDec_at dA148_cX12_readAt 10 rfl
theorem dX12_readAt_39 : decode cX12_readAt 39 = .ok (.iload_n 1, 1) := kDec_at dA148_cX12_readAt 11 rfl
theorem dX12_readAt_40 : decode cX12_readAt 40 = .ok (.iconst 3, 1) := kDec_at dA148_cX12_readAt 12 rfl
theorem dX12_readAt_41 : decode cX12_readAt 41 = .ok (.if_icmp .le 35, 3) := kDec_at dA148_cX12_readAt 13 rfl
theorem dX12_readAt_76 : decode cX12_readAt 76 = .ok (.iload_n 3, 1) := kDec_at dA148_cX12_readAt 14 rfl
theorem dX12_readAt_77 : decode cX12_readAt 77 = .ok (.bipush 127, 2) := kDec_at dA148_cX12_readAt 15 rfl
theorem dX12_readAt_79 : decode cX12_readAt 79 = .ok (.if_icmp .le 10, 3) := kDec_at dA148_cX12_readAt 16 rfl
theorem dX12_readAt_89 : decode cX12_readAt 89 = .ok (.iload_n 3, 1) := kDec_at dA148_cX12_readAt 17 rfl
theorem dX12_readAt_90 : decode cX12_readAt 90 = .ok (.sipush 128, 3) := kDec_at dA148_cX12_readAt 18 rfl
theorem dX12_readAt_93 : decode cX12_readAt 93 = .ok (.if_icmp .ge 16, 3) := kDec_at dA148_cX12_readAt 19 rfl
theorem dX12_readAt_96 : decode cX12_readAt 96 = .ok (.iload_n 1, 1) := kDec_at dA148_cX12_readAt 20 rfl
theorem dX12_readAt_97 : decode cX12_readAt 97 = .ok (.iconst 2, 1) := kDec_at dA148_cX12_readAt 21 rfl
theorem dX12_readAt_98 : decode cX12_readAt 98 = .ok (.if_icmp .eq 9, 3) := kDec_at dA148_cX12_readAt 22 rfl
theorem dX12_readAt_107 : decode cX12_readAt 107 = .ok (.iconst 1, 1) := kDec_at dA148_cX12_readAt 23 rfl
set_option maxRecDepth 100000 in
theorem dA149_cX12_readAt : kDec cX12_readAt [(108, .ireturn, 1), (101, .iload_n 3, 1), (102, .bipush 38, 2), (104, .if_icmp .eq 5, 3), (109, .iload_n 1, 1), (110, .iconst 2, 1), (111, .if_icmp .ne 153, 3), (264, .aload_n 0, 1), (265, .iload_n 2, 1), (266, .iconst 1, 1), (267, .iadd, 1), (268, .invokevirtual 108, 3), (271, .bipush 35, 2), (273, .if_icmp .eq 5, 3), (278, .iload_n 2, 1), (279, .iconst 2, 1), (280, .iadd, 1), (281, .istore 4, 2), (283, .iconst 0, 1), (284, .istore 5, 2), (286, .aload_n 0, 1), (287, .iload 4, 2), (289, .invokevirtual 108, 3), (292, .bipush 48, 2)] = true := by decide +kernel
theorem dX12_readAt_108 : decode cX12_readAt 108 = .ok (.ireturn, 1) := kDec_at dA149_cX12_readAt 0 rfl
theorem dX12_readAt_101 : decode cX12_readAt 101 = .ok (.iload_n 3, 1) := kDec_at dA149_cX12_readAt 1 rfl
theorem dX12_readAt_102 : decode cX12_readAt 102 = .ok (.bipush 38, 2) := kDec_at dA149_cX12_readAt 2 rfl
theorem dX12_readAt_104 : decode cX12_readAt 104 = .ok (.if_icmp .eq 5, 3) := kDec_at dA149_cX12_readAt 3 rfl
theorem dX12_readAt_109 : decode cX12_readAt 109 = .ok (.iload_n 1, 1) := kDec_at dA149_cX12_readAt 4 rfl
theorem dX12_readAt_110 : decode cX12_readAt 110 = .ok (.iconst 2, 1) := kDec_at dA149_cX12_readAt 5 rfl
theorem dX12_readAt_111 : decode cX12_readAt 111 = .ok (.if_icmp .ne 153, 3) := kDec_at dA149_cX12_readAt 6 rfl
theorem dX12_readAt_264 : decode cX12_readAt 264 = .ok (.aload_n 0, 1) := kDec_at dA149_cX12_readAt 7 rfl
theorem dX12_readAt_265 : decode cX12_readAt 265 = .ok (.iload_n 2, 1) := kDec_at dA149_cX12_readAt 8 rfl
theorem dX12_readAt_266 : decode cX12_readAt 266 = .ok (.iconst 1, 1) := kDec_at dA149_cX12_readAt 9 rfl
theorem dX12_readAt_267 : decode cX12_readAt 267 = .ok (.iadd, 1) := kDec_at dA149_cX12_readAt 10 rfl
theorem dX12_readAt_268 : decode cX12_readAt 268 = .ok (.invokevirtual 108, 3) := kDec_at dA149_cX12_readAt 11 rfl
theorem dX12_readAt_271 : decode cX12_readAt 271 = .ok (.bipush 35, 2) := kDec_at dA149_cX12_readAt 12 rfl
theorem dX12_readAt_273 : decode cX12_readAt 273 = .ok (.if_icmp .eq 5, 3) := kDec_at dA149_cX12_readAt 13 rfl
theorem dX12_readAt_278 : decode cX12_readAt 278 = .ok (.iload_n 2, 1) := kDec_at dA149_cX12_readAt 14 rfl
theorem dX12_readAt_279 : decode cX12_readAt 279 = .ok (.iconst 2, 1) := kDec_at dA149_cX12_readAt 15 rfl
theorem dX12_readAt_280 : decode cX12_readAt 280 = .ok (.iadd, 1) := kDec_at dA149_cX12_readAt 16 rfl
theorem dX12_readAt_281 : decode cX12_readAt 281 = .ok (.istore 4, 2) := kDec_at dA149_cX12_readAt 17 rfl
theorem dX12_readAt_283 : decode cX12_readAt 283 = .ok (.iconst 0, 1) := kDec_at dA149_cX12_readAt 18 rfl
theorem dX12_readAt_284 : decode cX12_readAt 284 = .ok (.istore 5, 2) := kDec_at dA149_cX12_readAt 19 rfl
theorem dX12_readAt_286 : decode cX12_readAt 286 = .ok (.aload_n 0, 1) := kDec_at dA149_cX12_readAt 20 rfl
theorem dX12_readAt_287 : decode cX12_readAt 287 = .ok (.iload 4, 2) := kDec_at dA149_cX12_readAt 21 rfl
theorem dX12_readAt_289 : decode cX12_readAt 289 = .ok (.invokevirtual 108, 3) := kDec_at dA149_cX12_readAt 22 rfl
theorem dX12_readAt_292 : decode cX12_readAt 292 = .ok (.bipush 48, 2) := kDec_at dA149_cX12_readAt 23 rfl
set_option maxRecDepth 20000 in
theorem ggX12_readAt_X12_byteAt : GoodIn wsX12_readAt wsX12_byteAt := goodIn_r _ [8, 9, 1, 19, 20, 21, 22, 23, 24, 25, 26, 27, 28, 29, 30, 31, 32, 33, 34, 35, 36, 37, 38, 39, 40, 41, 42, 43, 44, 45, 46, 47, 48, 49, 50, 51, 52, 53, 54, 55, 56, 57, 58] rfl (by decide +kernel)
set_option maxRecDepth 20000 in
theorem gX12_readAt_X12_byteAt : GoodIn wsX12_readAt (wsV RX12 108 RX12 yX12_byteAt wsX12_byteAt) := goodIn_app (goodIn_r _ [4, 5, 6, 7] rfl (by decide +kernel)) ggX12_readAt_X12_byteAt
set_option maxRecDepth 100000 in
theorem dA150_cX12_readAt : kDec cX12_readAt [(294, .if_icmp .lt 62, 3), (356, .aload_n 0, 1), (357, .iload 5, 2), (359, .putfield 105, 3), (362, .iload 4, 2), (364, .iload_n 2, 1), (365, .iconst 2, 1), (366, .iadd, 1), (367, .if_icmp .le 40, 3), (407, .iconst 0, 1), (408, .istore 6, 2), (410, .iload 6, 2), (412, .ifCond .eq 12, 3), (424, .iconst 0, 1), (425, .ireturn, 1), (370, .aload_n 0, 1), (371, .iload 4, 2), (373, .invokevirtual 108, 3), (376, .bipush 59, 2), (378, .if_icmp .ne 29, 3), (381, .iload 5, 2), (383, .invokestatic 116, 3), (386, .ifCond .eq 21, 3), (389, .iload 5, 2)] = true := by decide +kernel
theorem dX12_readAt_294 : decode cX12_readAt 294 = .ok (.if_icmp .lt 62, 3) := kDec_at dA150_cX12_readAt 0 rfl
theorem dX12_readAt_356 : decode cX12_readAt 356 = .ok (.aload_n 0, 1) := kDec_at dA150_cX12_readAt 1 rfl
theorem dX12_readAt_357 : decode cX12_readAt 357 = .ok (.iload 5, 2) := kDec_at dA150_cX12_readAt 2 rfl
theorem dX12_readAt_359 : decode cX12_readAt 359 = .ok (.putfield 105, 3) := kDec_at dA150_cX12_readAt 3 rfl
theorem dX12_readAt_362 : decode cX12_readAt 362 = .ok (.iload 4, 2) := kDec_at dA150_cX12_readAt 4 rfl
theorem dX12_readAt_364 : decode cX12_readAt 364 = .ok (.iload_n 2, 1) := kDec_at dA150_cX12_readAt 5 rfl
theorem dX12_readAt_365 : decode cX12_readAt 365 = .ok (.iconst 2, 1) := kDec_at dA150_cX12_readAt 6 rfl
theorem dX12_readAt_366 : decode cX12_readAt 366 = .ok (.iadd, 1) := kDec_at dA150_cX12_readAt 7 rfl
theorem dX12_readAt_367 : decode cX12_readAt 367 = .ok (.if_icmp .le 40, 3) := kDec_at dA150_cX12_readAt 8 rfl
theorem dX12_readAt_407 : decode cX12_readAt 407 = .ok (.iconst 0, 1) := kDec_at dA150_cX12_readAt 9 rfl
theorem dX12_readAt_408 : decode cX12_readAt 408 = .ok (.istore 6, 2) := kDec_at dA150_cX12_readAt 10 rfl
theorem dX12_readAt_410 : decode cX12_readAt 410 = .ok (.iload 6, 2) := kDec_at dA150_cX12_readAt 11 rfl
theorem dX12_readAt_412 : decode cX12_readAt 412 = .ok (.ifCond .eq 12, 3) := kDec_at dA150_cX12_readAt 12 rfl
theorem dX12_readAt_424 : decode cX12_readAt 424 = .ok (.iconst 0, 1) := kDec_at dA150_cX12_readAt 13 rfl
theorem dX12_readAt_425 : decode cX12_readAt 425 = .ok (.ireturn, 1) := kDec_at dA150_cX12_readAt 14 rfl
theorem dX12_readAt_370 : decode cX12_readAt 370 = .ok (.aload_n 0, 1) := kDec_at dA150_cX12_readAt 15 rfl
theorem dX12_readAt_371 : decode cX12_readAt 371 = .ok (.iload 4, 2) := kDec_at dA150_cX12_readAt 16 rfl
theorem dX12_readAt_373 : decode cX12_readAt 373 = .ok (.invokevirtual 108, 3) := kDec_at dA150_cX12_readAt 17 rfl
theorem dX12_readAt_376 : decode cX12_readAt 376 = .ok (.bipush 59, 2) := kDec_at dA150_cX12_readAt 18 rfl
theorem dX12_readAt_378 : decode cX12_readAt 378 = .ok (.if_icmp .ne 29, 3) := kDec_at dA150_cX12_readAt 19 rfl
theorem dX12_readAt_381 : decode cX12_readAt 381 = .ok (.iload 5, 2) := kDec_at dA150_cX12_readAt 20 rfl
theorem dX12_readAt_383 : decode cX12_readAt 383 = .ok (.invokestatic 116, 3) := kDec_at dA150_cX12_readAt 21 rfl
theorem dX12_readAt_386 : decode cX12_readAt 386 = .ok (.ifCond .eq 21, 3) := kDec_at dA150_cX12_readAt 22 rfl
theorem dX12_readAt_389 : decode cX12_readAt 389 = .ok (.iload 5, 2) := kDec_at dA150_cX12_readAt 23 rfl
set_option maxRecDepth 20000 in
theorem ggX12_readAt_X12_isLetter : GoodIn wsX12_readAt wsX12_isLetter := goodIn_r _ [15, 16, 17, 18] rfl (by decide +kernel)
set_option maxRecDepth 20000 in
theorem gX12_readAt_X12_isLetter : GoodIn wsX12_readAt (va_wsS RX12 116 yX12_isLetter wsX12_isLetter) := goodIn_app (goodIn_r _ [13, 14, 7] rfl (by decide +kernel)) ggX12_readAt_X12_isLetter
set_option maxRecDepth 100000 in
theorem dA151_cX12_readAt : kDec cX12_readAt [(391, .bipush 38, 2), (393, .if_icmp .eq 10, 3), (403, .iconst 1, 1), (404, .goto 4, 3), (415, .iload 4, 2), (417, .iload_n 2, 1), (418, .isub, 1), (419, .iconst 1, 1), (420, .iadd, 1), (421, .goto 4, 3), (396, .iload 5, 2), (398, .bipush 127, 2), (400, .if_icmp .le 7, 3), (297, .aload_n 0, 1), (298, .iload 4, 2), (300, .invokevirtual 108, 3), (303, .bipush 57, 2), (305, .if_icmp .gt 51, 3), (308, .iload 4, 2), (310, .iload_n 2, 1), (311, .isub, 1), (312, .bipush 8, 2), (314, .if_icmp .ge 42, 3), (317, .iload 5, 2)] = true := by decide +kernel
theorem dX12_readAt_391 : decode cX12_readAt 391 = .ok (.bipush 38, 2) := kDec_at dA151_cX12_readAt 0 rfl
theorem dX12_readAt_393 : decode cX12_readAt 393 = .ok (.if_icmp .eq 10, 3) := kDec_at dA151_cX12_readAt 1 rfl
theorem dX12_readAt_403 : decode cX12_readAt 403 = .ok (.iconst 1, 1) := kDec_at dA151_cX12_readAt 2 rfl
theorem dX12_readAt_404 : decode cX12_readAt 404 = .ok (.goto 4, 3) := kDec_at dA151_cX12_readAt 3 rfl
theorem dX12_readAt_415 : decode cX12_readAt 415 = .ok (.iload 4, 2) := kDec_at dA151_cX12_readAt 4 rfl
theorem dX12_readAt_417 : decode cX12_readAt 417 = .ok (.iload_n 2, 1) := kDec_at dA151_cX12_readAt 5 rfl
theorem dX12_readAt_418 : decode cX12_readAt 418 = .ok (.isub, 1) := kDec_at dA151_cX12_readAt 6 rfl
theorem dX12_readAt_419 : decode cX12_readAt 419 = .ok (.iconst 1, 1) := kDec_at dA151_cX12_readAt 7 rfl
theorem dX12_readAt_420 : decode cX12_readAt 420 = .ok (.iadd, 1) := kDec_at dA151_cX12_readAt 8 rfl
theorem dX12_readAt_421 : decode cX12_readAt 421 = .ok (.goto 4, 3) := kDec_at dA151_cX12_readAt 9 rfl
theorem dX12_readAt_396 : decode cX12_readAt 396 = .ok (.iload 5, 2) := kDec_at dA151_cX12_readAt 10 rfl
theorem dX12_readAt_398 : decode cX12_readAt 398 = .ok (.bipush 127, 2) := kDec_at dA151_cX12_readAt 11 rfl
theorem dX12_readAt_400 : decode cX12_readAt 400 = .ok (.if_icmp .le 7, 3) := kDec_at dA151_cX12_readAt 12 rfl
theorem dX12_readAt_297 : decode cX12_readAt 297 = .ok (.aload_n 0, 1) := kDec_at dA151_cX12_readAt 13 rfl
theorem dX12_readAt_298 : decode cX12_readAt 298 = .ok (.iload 4, 2) := kDec_at dA151_cX12_readAt 14 rfl
theorem dX12_readAt_300 : decode cX12_readAt 300 = .ok (.invokevirtual 108, 3) := kDec_at dA151_cX12_readAt 15 rfl
theorem dX12_readAt_303 : decode cX12_readAt 303 = .ok (.bipush 57, 2) := kDec_at dA151_cX12_readAt 16 rfl
theorem dX12_readAt_305 : decode cX12_readAt 305 = .ok (.if_icmp .gt 51, 3) := kDec_at dA151_cX12_readAt 17 rfl
theorem dX12_readAt_308 : decode cX12_readAt 308 = .ok (.iload 4, 2) := kDec_at dA151_cX12_readAt 18 rfl
theorem dX12_readAt_310 : decode cX12_readAt 310 = .ok (.iload_n 2, 1) := kDec_at dA151_cX12_readAt 19 rfl
theorem dX12_readAt_311 : decode cX12_readAt 311 = .ok (.isub, 1) := kDec_at dA151_cX12_readAt 20 rfl
theorem dX12_readAt_312 : decode cX12_readAt 312 = .ok (.bipush 8, 2) := kDec_at dA151_cX12_readAt 21 rfl
theorem dX12_readAt_314 : decode cX12_readAt 314 = .ok (.if_icmp .ge 42, 3) := kDec_at dA151_cX12_readAt 22 rfl
theorem dX12_readAt_317 : decode cX12_readAt 317 = .ok (.iload 5, 2) := kDec_at dA151_cX12_readAt 23 rfl
set_option maxRecDepth 100000 in
theorem dA152_cX12_readAt : kDec cX12_readAt [(319, .ifCond .ne 13, 3), (332, .bipush 10, 2), (334, .iload 5, 2), (336, .imul, 1), (337, .aload_n 0, 1), (338, .getfield 58, 3), (341, .iload 4, 2), (343, .iaload, 1), (344, .iadd, 1), (345, .bipush 48, 2), (347, .isub, 1), (348, .istore 5, 2), (350, .iinc 4 1, 3), (353, .goto (-67), 3), (322, .iload 4, 2), (324, .iload_n 2, 1), (325, .iconst 2, 1), (326, .iadd, 1), (327, .if_icmp .le 5, 3), (330, .iconst 0, 1), (331, .ireturn, 1), (276, .iconst 0, 1), (277, .ireturn, 1), (82, .iload_n 1, 1)] = true := by decide +kernel
theorem dX12_readAt_319 : decode cX12_readAt 319 = .ok (.ifCond .ne 13, 3) := kDec_at dA152_cX12_readAt 0 rfl
theorem dX12_readAt_332 : decode cX12_readAt 332 = .ok (.bipush 10, 2) := kDec_at dA152_cX12_readAt 1 rfl
theorem dX12_readAt_334 : decode cX12_readAt 334 = .ok (.iload 5, 2) := kDec_at dA152_cX12_readAt 2 rfl
theorem dX12_readAt_336 : decode cX12_readAt 336 = .ok (.imul, 1) := kDec_at dA152_cX12_readAt 3 rfl
theorem dX12_readAt_337 : decode cX12_readAt 337 = .ok (.aload_n 0, 1) := kDec_at dA152_cX12_readAt 4 rfl
theorem dX12_readAt_338 : decode cX12_readAt 338 = .ok (.getfield 58, 3) := kDec_at dA152_cX12_readAt 5 rfl
theorem dX12_readAt_341 : decode cX12_readAt 341 = .ok (.iload 4, 2) := kDec_at dA152_cX12_readAt 6 rfl
theorem dX12_readAt_343 : decode cX12_readAt 343 = .ok (.iaload, 1) := kDec_at dA152_cX12_readAt 7 rfl
theorem dX12_readAt_344 : decode cX12_readAt 344 = .ok (.iadd, 1) := kDec_at dA152_cX12_readAt 8 rfl
theorem dX12_readAt_345 : decode cX12_readAt 345 = .ok (.bipush 48, 2) := kDec_at dA152_cX12_readAt 9 rfl
theorem dX12_readAt_347 : decode cX12_readAt 347 = .ok (.isub, 1) := kDec_at dA152_cX12_readAt 10 rfl
theorem dX12_readAt_348 : decode cX12_readAt 348 = .ok (.istore 5, 2) := kDec_at dA152_cX12_readAt 11 rfl
theorem dX12_readAt_350 : decode cX12_readAt 350 = .ok (.iinc 4 1, 3) := kDec_at dA152_cX12_readAt 12 rfl
theorem dX12_readAt_353 : decode cX12_readAt 353 = .ok (.goto (-67), 3) := kDec_at dA152_cX12_readAt 13 rfl
theorem dX12_readAt_322 : decode cX12_readAt 322 = .ok (.iload 4, 2) := kDec_at dA152_cX12_readAt 14 rfl
theorem dX12_readAt_324 : decode cX12_readAt 324 = .ok (.iload_n 2, 1) := kDec_at dA152_cX12_readAt 15 rfl
theorem dX12_readAt_325 : decode cX12_readAt 325 = .ok (.iconst 2, 1) := kDec_at dA152_cX12_readAt 16 rfl
theorem dX12_readAt_326 : decode cX12_readAt 326 = .ok (.iadd, 1) := kDec_at dA152_cX12_readAt 17 rfl
theorem dX12_readAt_327 : decode cX12_readAt 327 = .ok (.if_icmp .le 5, 3) := kDec_at dA152_cX12_readAt 18 rfl
theorem dX12_readAt_330 : decode cX12_readAt 330 = .ok (.iconst 0, 1) := kDec_at dA152_cX12_readAt 19 rfl
theorem dX12_readAt_331 : decode cX12_readAt 331 = .ok (.ireturn, 1) := kDec_at dA152_cX12_readAt 20 rfl
theorem dX12_readAt_276 : decode cX12_readAt 276 = .ok (.iconst 0, 1) := kDec_at dA152_cX12_readAt 21 rfl
theorem dX12_readAt_277 : decode cX12_readAt 277 = .ok (.ireturn, 1) := kDec_at dA152_cX12_readAt 22 rfl
theorem dX12_readAt_82 : decode cX12_readAt 82 = .ok (.iload_n 1, 1) := kDec_at dA152_cX12_readAt 23 rfl
set_option maxRecDepth 100000 in
theorem dA153_cX12_readAt : kDec cX12_readAt [(83, .iconst 3, 1), (84, .if_icmp .ne 5, 3), (114, .aload_n 0, 1), (115, .iload_n 2, 1), (116, .iconst 1, 1), (117, .iadd, 1), (118, .invokevirtual 108, 3), (121, .istore 4, 2), (123, .iload_n 3, 1), (124, .sipush 192, 3), (127, .if_icmp .lt 18, 3), (145, .iconst 0, 1), (146, .ireturn, 1), (130, .iload_n 3, 1), (131, .sipush 239, 3), (134, .if_icmp .gt 11, 3), (137, .iload 4, 2), (139, .invokestatic 112, 3), (142, .ifCond .ne 5, 3), (147, .iload_n 3, 1), (148, .sipush 224, 3), (151, .if_icmp .ge 38, 3), (189, .aload_n 0, 1), (190, .iload_n 2, 1)] = true := by decide +kernel
theorem dX12_readAt_83 : decode cX12_readAt 83 = .ok (.iconst 3, 1) := kDec_at dA153_cX12_readAt 0 rfl
theorem dX12_readAt_84 : decode cX12_readAt 84 = .ok (.if_icmp .ne 5, 3) := kDec_at dA153_cX12_readAt 1 rfl
theorem dX12_readAt_114 : decode cX12_readAt 114 = .ok (.aload_n 0, 1) := kDec_at dA153_cX12_readAt 2 rfl
theorem dX12_readAt_115 : decode cX12_readAt 115 = .ok (.iload_n 2, 1) := kDec_at dA153_cX12_readAt 3 rfl
theorem dX12_readAt_116 : decode cX12_readAt 116 = .ok (.iconst 1, 1) := kDec_at dA153_cX12_readAt 4 rfl
theorem dX12_readAt_117 : decode cX12_readAt 117 = .ok (.iadd, 1) := kDec_at dA153_cX12_readAt 5 rfl
theorem dX12_readAt_118 : decode cX12_readAt 118 = .ok (.invokevirtual 108, 3) := kDec_at dA153_cX12_readAt 6 rfl
theorem dX12_readAt_121 : decode cX12_readAt 121 = .ok (.istore 4, 2) := kDec_at dA153_cX12_readAt 7 rfl
theorem dX12_readAt_123 : decode cX12_readAt 123 = .ok (.iload_n 3, 1) := kDec_at dA153_cX12_readAt 8 rfl
theorem dX12_readAt_124 : decode cX12_readAt 124 = .ok (.sipush 192, 3) := kDec_at dA153_cX12_readAt 9 rfl
theorem dX12_readAt_127 : decode cX12_readAt 127 = .ok (.if_icmp .lt 18, 3) := kDec_at dA153_cX12_readAt 10 rfl
theorem dX12_readAt_145 : decode cX12_readAt 145 = .ok (.iconst 0, 1) := kDec_at dA153_cX12_readAt 11 rfl
theorem dX12_readAt_146 : decode cX12_readAt 146 = .ok (.ireturn, 1) := kDec_at dA153_cX12_readAt 12 rfl
theorem dX12_readAt_130 : decode cX12_readAt 130 = .ok (.iload_n 3, 1) := kDec_at dA153_cX12_readAt 13 rfl
theorem dX12_readAt_131 : decode cX12_readAt 131 = .ok (.sipush 239, 3) := kDec_at dA153_cX12_readAt 14 rfl
theorem dX12_readAt_134 : decode cX12_readAt 134 = .ok (.if_icmp .gt 11, 3) := kDec_at dA153_cX12_readAt 15 rfl
theorem dX12_readAt_137 : decode cX12_readAt 137 = .ok (.iload 4, 2) := kDec_at dA153_cX12_readAt 16 rfl
theorem dX12_readAt_139 : decode cX12_readAt 139 = .ok (.invokestatic 112, 3) := kDec_at dA153_cX12_readAt 17 rfl
theorem dX12_readAt_142 : decode cX12_readAt 142 = .ok (.ifCond .ne 5, 3) := kDec_at dA153_cX12_readAt 18 rfl
theorem dX12_readAt_147 : decode cX12_readAt 147 = .ok (.iload_n 3, 1) := kDec_at dA153_cX12_readAt 19 rfl
theorem dX12_readAt_148 : decode cX12_readAt 148 = .ok (.sipush 224, 3) := kDec_at dA153_cX12_readAt 20 rfl
theorem dX12_readAt_151 : decode cX12_readAt 151 = .ok (.if_icmp .ge 38, 3) := kDec_at dA153_cX12_readAt 21 rfl
theorem dX12_readAt_189 : decode cX12_readAt 189 = .ok (.aload_n 0, 1) := kDec_at dA153_cX12_readAt 22 rfl
theorem dX12_readAt_190 : decode cX12_readAt 190 = .ok (.iload_n 2, 1) := kDec_at dA153_cX12_readAt 23 rfl
set_option maxRecDepth 20000 in
theorem ggX12_readAt_X12_goesOn : GoodIn wsX12_readAt wsX12_goesOn := goodIn_r _ [12] rfl (by decide +kernel)
set_option maxRecDepth 20000 in
theorem gX12_readAt_X12_goesOn : GoodIn wsX12_readAt (va_wsS RX12 112 yX12_goesOn wsX12_goesOn) := goodIn_app (goodIn_r _ [10, 11, 7] rfl (by decide +kernel)) ggX12_readAt_X12_goesOn
set_option maxRecDepth 100000 in
theorem dA154_cX12_readAt : kDec cX12_readAt [(191, .iconst 2, 1), (192, .iadd, 1), (193, .invokevirtual 108, 3), (196, .istore 5, 2), (198, .iload 5, 2), (200, .invokestatic 112, 3), (203, .ifCond .ne 5, 3), (208, .aload_n 0, 1), (209, .iload_n 3, 1), (210, .sipush 224, 3), (213, .isub, 1), (214, .sipush 4096, 3), (217, .imul, 1), (218, .iload 4, 2), (220, .sipush 128, 3), (223, .isub, 1), (224, .bipush 64, 2), (226, .imul, 1), (227, .iadd, 1), (228, .iload 5, 2), (230, .iadd, 1), (231, .sipush 128, 3), (234, .isub, 1), (235, .putfield 105, 3)] = true := by decide +kernel
theorem dX12_readAt_191 : decode cX12_readAt 191 = .ok (.iconst 2, 1) := kDec_at dA154_cX12_readAt 0 rfl
theorem dX12_readAt_192 : decode cX12_readAt 192 = .ok (.iadd, 1) := kDec_at dA154_cX12_readAt 1 rfl
theorem dX12_readAt_193 : decode cX12_readAt 193 = .ok (.invokevirtual 108, 3) := kDec_at dA154_cX12_readAt 2 rfl
theorem dX12_readAt_196 : decode cX12_readAt 196 = .ok (.istore 5, 2) := kDec_at dA154_cX12_readAt 3 rfl
theorem dX12_readAt_198 : decode cX12_readAt 198 = .ok (.iload 5, 2) := kDec_at dA154_cX12_readAt 4 rfl
theorem dX12_readAt_200 : decode cX12_readAt 200 = .ok (.invokestatic 112, 3) := kDec_at dA154_cX12_readAt 5 rfl
theorem dX12_readAt_203 : decode cX12_readAt 203 = .ok (.ifCond .ne 5, 3) := kDec_at dA154_cX12_readAt 6 rfl
theorem dX12_readAt_208 : decode cX12_readAt 208 = .ok (.aload_n 0, 1) := kDec_at dA154_cX12_readAt 7 rfl
theorem dX12_readAt_209 : decode cX12_readAt 209 = .ok (.iload_n 3, 1) := kDec_at dA154_cX12_readAt 8 rfl
theorem dX12_readAt_210 : decode cX12_readAt 210 = .ok (.sipush 224, 3) := kDec_at dA154_cX12_readAt 9 rfl
theorem dX12_readAt_213 : decode cX12_readAt 213 = .ok (.isub, 1) := kDec_at dA154_cX12_readAt 10 rfl
theorem dX12_readAt_214 : decode cX12_readAt 214 = .ok (.sipush 4096, 3) := kDec_at dA154_cX12_readAt 11 rfl
theorem dX12_readAt_217 : decode cX12_readAt 217 = .ok (.imul, 1) := kDec_at dA154_cX12_readAt 12 rfl
theorem dX12_readAt_218 : decode cX12_readAt 218 = .ok (.iload 4, 2) := kDec_at dA154_cX12_readAt 13 rfl
theorem dX12_readAt_220 : decode cX12_readAt 220 = .ok (.sipush 128, 3) := kDec_at dA154_cX12_readAt 14 rfl
theorem dX12_readAt_223 : decode cX12_readAt 223 = .ok (.isub, 1) := kDec_at dA154_cX12_readAt 15 rfl
theorem dX12_readAt_224 : decode cX12_readAt 224 = .ok (.bipush 64, 2) := kDec_at dA154_cX12_readAt 16 rfl
theorem dX12_readAt_226 : decode cX12_readAt 226 = .ok (.imul, 1) := kDec_at dA154_cX12_readAt 17 rfl
theorem dX12_readAt_227 : decode cX12_readAt 227 = .ok (.iadd, 1) := kDec_at dA154_cX12_readAt 18 rfl
theorem dX12_readAt_228 : decode cX12_readAt 228 = .ok (.iload 5, 2) := kDec_at dA154_cX12_readAt 19 rfl
theorem dX12_readAt_230 : decode cX12_readAt 230 = .ok (.iadd, 1) := kDec_at dA154_cX12_readAt 20 rfl
theorem dX12_readAt_231 : decode cX12_readAt 231 = .ok (.sipush 128, 3) := kDec_at dA154_cX12_readAt 21 rfl
theorem dX12_readAt_234 : decode cX12_readAt 234 = .ok (.isub, 1) := kDec_at dA154_cX12_readAt 22 rfl
theorem dX12_readAt_235 : decode cX12_readAt 235 = .ok (.putfield 105, 3) := kDec_at dA154_cX12_readAt 23 rfl
set_option maxRecDepth 100000 in
theorem dA155_cX12_readAt : kDec cX12_readAt [(238, .aload_n 0, 1), (239, .getfield 105, 3), (242, .sipush 2048, 3), (245, .if_icmp .lt 13, 3), (258, .iconst 0, 1), (259, .goto 4, 3), (263, .ireturn, 1), (248, .aload_n 0, 1), (249, .getfield 105, 3), (252, .invokestatic 116, 3), (255, .ifCond .ne 7, 3), (262, .iconst 3, 1), (206, .iconst 0, 1), (207, .ireturn, 1), (154, .aload_n 0, 1), (155, .iload_n 3, 1), (156, .sipush 192, 3), (159, .isub, 1), (160, .bipush 64, 2), (162, .imul, 1), (163, .iload 4, 2), (165, .iadd, 1), (166, .sipush 128, 3), (169, .isub, 1)] = true := by decide +kernel
theorem dX12_readAt_238 : decode cX12_readAt 238 = .ok (.aload_n 0, 1) := kDec_at dA155_cX12_readAt 0 rfl
theorem dX12_readAt_239 : decode cX12_readAt 239 = .ok (.getfield 105, 3) := kDec_at dA155_cX12_readAt 1 rfl
theorem dX12_readAt_242 : decode cX12_readAt 242 = .ok (.sipush 2048, 3) := kDec_at dA155_cX12_readAt 2 rfl
theorem dX12_readAt_245 : decode cX12_readAt 245 = .ok (.if_icmp .lt 13, 3) := kDec_at dA155_cX12_readAt 3 rfl
theorem dX12_readAt_258 : decode cX12_readAt 258 = .ok (.iconst 0, 1) := kDec_at dA155_cX12_readAt 4 rfl
theorem dX12_readAt_259 : decode cX12_readAt 259 = .ok (.goto 4, 3) := kDec_at dA155_cX12_readAt 5 rfl
theorem dX12_readAt_263 : decode cX12_readAt 263 = .ok (.ireturn, 1) := kDec_at dA155_cX12_readAt 6 rfl
theorem dX12_readAt_248 : decode cX12_readAt 248 = .ok (.aload_n 0, 1) := kDec_at dA155_cX12_readAt 7 rfl
theorem dX12_readAt_249 : decode cX12_readAt 249 = .ok (.getfield 105, 3) := kDec_at dA155_cX12_readAt 8 rfl
theorem dX12_readAt_252 : decode cX12_readAt 252 = .ok (.invokestatic 116, 3) := kDec_at dA155_cX12_readAt 9 rfl
theorem dX12_readAt_255 : decode cX12_readAt 255 = .ok (.ifCond .ne 7, 3) := kDec_at dA155_cX12_readAt 10 rfl
theorem dX12_readAt_262 : decode cX12_readAt 262 = .ok (.iconst 3, 1) := kDec_at dA155_cX12_readAt 11 rfl
theorem dX12_readAt_206 : decode cX12_readAt 206 = .ok (.iconst 0, 1) := kDec_at dA155_cX12_readAt 12 rfl
theorem dX12_readAt_207 : decode cX12_readAt 207 = .ok (.ireturn, 1) := kDec_at dA155_cX12_readAt 13 rfl
theorem dX12_readAt_154 : decode cX12_readAt 154 = .ok (.aload_n 0, 1) := kDec_at dA155_cX12_readAt 14 rfl
theorem dX12_readAt_155 : decode cX12_readAt 155 = .ok (.iload_n 3, 1) := kDec_at dA155_cX12_readAt 15 rfl
theorem dX12_readAt_156 : decode cX12_readAt 156 = .ok (.sipush 192, 3) := kDec_at dA155_cX12_readAt 16 rfl
theorem dX12_readAt_159 : decode cX12_readAt 159 = .ok (.isub, 1) := kDec_at dA155_cX12_readAt 17 rfl
theorem dX12_readAt_160 : decode cX12_readAt 160 = .ok (.bipush 64, 2) := kDec_at dA155_cX12_readAt 18 rfl
theorem dX12_readAt_162 : decode cX12_readAt 162 = .ok (.imul, 1) := kDec_at dA155_cX12_readAt 19 rfl
theorem dX12_readAt_163 : decode cX12_readAt 163 = .ok (.iload 4, 2) := kDec_at dA155_cX12_readAt 20 rfl
theorem dX12_readAt_165 : decode cX12_readAt 165 = .ok (.iadd, 1) := kDec_at dA155_cX12_readAt 21 rfl
theorem dX12_readAt_166 : decode cX12_readAt 166 = .ok (.sipush 128, 3) := kDec_at dA155_cX12_readAt 22 rfl
theorem dX12_readAt_169 : decode cX12_readAt 169 = .ok (.isub, 1) := kDec_at dA155_cX12_readAt 23 rfl
set_option maxRecDepth 100000 in
theorem dA156_cX12_readAt : kDec cX12_readAt [(170, .putfield 105, 3), (173, .aload_n 0, 1), (174, .getfield 105, 3), (177, .sipush 128, 3), (180, .if_icmp .ge 7, 3), (187, .iconst 2, 1), (188, .ireturn, 1), (183, .iconst 0, 1), (184, .goto 4, 3), (87, .iconst 0, 1), (88, .ireturn, 1), (44, .aload_n 0, 1), (45, .aload_n 0, 1), (46, .getfield 19, 3), (49, .sipush 256, 3), (52, .iload_n 1, 1), (53, .iconst 4, 1), (54, .isub, 1), (55, .imul, 1), (56, .iload_n 3, 1), (57, .iadd, 1), (58, .iaload, 1), (59, .putfield 105, 3), (62, .aload_n 0, 1)] = true := by decide +kernel
theorem dX12_readAt_170 : decode cX12_readAt 170 = .ok (.putfield 105, 3) := kDec_at dA156_cX12_readAt 0 rfl
theorem dX12_readAt_173 : decode cX12_readAt 173 = .ok (.aload_n 0, 1) := kDec_at dA156_cX12_readAt 1 rfl
theorem dX12_readAt_174 : decode cX12_readAt 174 = .ok (.getfield 105, 3) := kDec_at dA156_cX12_readAt 2 rfl
theorem dX12_readAt_177 : decode cX12_readAt 177 = .ok (.sipush 128, 3) := kDec_at dA156_cX12_readAt 3 rfl
theorem dX12_readAt_180 : decode cX12_readAt 180 = .ok (.if_icmp .ge 7, 3) := kDec_at dA156_cX12_readAt 4 rfl
theorem dX12_readAt_187 : decode cX12_readAt 187 = .ok (.iconst 2, 1) := kDec_at dA156_cX12_readAt 5 rfl
theorem dX12_readAt_188 : decode cX12_readAt 188 = .ok (.ireturn, 1) := kDec_at dA156_cX12_readAt 6 rfl
theorem dX12_readAt_183 : decode cX12_readAt 183 = .ok (.iconst 0, 1) := kDec_at dA156_cX12_readAt 7 rfl
theorem dX12_readAt_184 : decode cX12_readAt 184 = .ok (.goto 4, 3) := kDec_at dA156_cX12_readAt 8 rfl
theorem dX12_readAt_87 : decode cX12_readAt 87 = .ok (.iconst 0, 1) := kDec_at dA156_cX12_readAt 9 rfl
theorem dX12_readAt_88 : decode cX12_readAt 88 = .ok (.ireturn, 1) := kDec_at dA156_cX12_readAt 10 rfl
theorem dX12_readAt_44 : decode cX12_readAt 44 = .ok (.aload_n 0, 1) := kDec_at dA156_cX12_readAt 11 rfl
theorem dX12_readAt_45 : decode cX12_readAt 45 = .ok (.aload_n 0, 1) := kDec_at dA156_cX12_readAt 12 rfl
theorem dX12_readAt_46 : decode cX12_readAt 46 = .ok (.getfield 19, 3) := kDec_at dA156_cX12_readAt 13 rfl
theorem dX12_readAt_49 : decode cX12_readAt 49 = .ok (.sipush 256, 3) := kDec_at dA156_cX12_readAt 14 rfl
theorem dX12_readAt_52 : decode cX12_readAt 52 = .ok (.iload_n 1, 1) := kDec_at dA156_cX12_readAt 15 rfl
theorem dX12_readAt_53 : decode cX12_readAt 53 = .ok (.iconst 4, 1) := kDec_at dA156_cX12_readAt 16 rfl
theorem dX12_readAt_54 : decode cX12_readAt 54 = .ok (.isub, 1) := kDec_at dA156_cX12_readAt 17 rfl
theorem dX12_readAt_55 : decode cX12_readAt 55 = .ok (.imul, 1) := kDec_at dA156_cX12_readAt 18 rfl
theorem dX12_readAt_56 : decode cX12_readAt 56 = .ok (.iload_n 3, 1) := kDec_at dA156_cX12_readAt 19 rfl
theorem dX12_readAt_57 : decode cX12_readAt 57 = .ok (.iadd, 1) := kDec_at dA156_cX12_readAt 20 rfl
theorem dX12_readAt_58 : decode cX12_readAt 58 = .ok (.iaload, 1) := kDec_at dA156_cX12_readAt 21 rfl
theorem dX12_readAt_59 : decode cX12_readAt 59 = .ok (.putfield 105, 3) := kDec_at dA156_cX12_readAt 22 rfl
theorem dX12_readAt_62 : decode cX12_readAt 62 = .ok (.aload_n 0, 1) := kDec_at dA156_cX12_readAt 23 rfl
set_option maxRecDepth 100000 in
theorem dA157_cX12_readAt : kDec cX12_readAt [(63, .getfield 105, 3), (66, .iconst (-1), 1), (67, .if_icmp .ne 7, 3), (74, .iconst 1, 1), (75, .ireturn, 1), (70, .iconst 0, 1), (71, .goto 4, 3), (17, .iload_n 3, 1), (18, .iload_n 1, 1), (19, .ifCond .ne 8, 3), (27, .sipush 255, 3), (30, .if_icmp .le 7, 3), (37, .iconst 1, 1), (38, .ireturn, 1), (22, .bipush 127, 2), (24, .goto 6, 3), (33, .iconst 0, 1), (34, .goto 4, 3)] = true := by decide +kernel
theorem dX12_readAt_63 : decode cX12_readAt 63 = .ok (.getfield 105, 3) := kDec_at dA157_cX12_readAt 0 rfl
theorem dX12_readAt_66 : decode cX12_readAt 66 = .ok (.iconst (-1), 1) := kDec_at dA157_cX12_readAt 1 rfl
theorem dX12_readAt_67 : decode cX12_readAt 67 = .ok (.if_icmp .ne 7, 3) := kDec_at dA157_cX12_readAt 2 rfl
theorem dX12_readAt_74 : decode cX12_readAt 74 = .ok (.iconst 1, 1) := kDec_at dA157_cX12_readAt 3 rfl
theorem dX12_readAt_75 : decode cX12_readAt 75 = .ok (.ireturn, 1) := kDec_at dA157_cX12_readAt 4 rfl
theorem dX12_readAt_70 : decode cX12_readAt 70 = .ok (.iconst 0, 1) := kDec_at dA157_cX12_readAt 5 rfl
theorem dX12_readAt_71 : decode cX12_readAt 71 = .ok (.goto 4, 3) := kDec_at dA157_cX12_readAt 6 rfl
theorem dX12_readAt_17 : decode cX12_readAt 17 = .ok (.iload_n 3, 1) := kDec_at dA157_cX12_readAt 7 rfl
theorem dX12_readAt_18 : decode cX12_readAt 18 = .ok (.iload_n 1, 1) := kDec_at dA157_cX12_readAt 8 rfl
theorem dX12_readAt_19 : decode cX12_readAt 19 = .ok (.ifCond .ne 8, 3) := kDec_at dA157_cX12_readAt 9 rfl
theorem dX12_readAt_27 : decode cX12_readAt 27 = .ok (.sipush 255, 3) := kDec_at dA157_cX12_readAt 10 rfl
theorem dX12_readAt_30 : decode cX12_readAt 30 = .ok (.if_icmp .le 7, 3) := kDec_at dA157_cX12_readAt 11 rfl
theorem dX12_readAt_37 : decode cX12_readAt 37 = .ok (.iconst 1, 1) := kDec_at dA157_cX12_readAt 12 rfl
theorem dX12_readAt_38 : decode cX12_readAt 38 = .ok (.ireturn, 1) := kDec_at dA157_cX12_readAt 13 rfl
theorem dX12_readAt_22 : decode cX12_readAt 22 = .ok (.bipush 127, 2) := kDec_at dA157_cX12_readAt 14 rfl
theorem dX12_readAt_24 : decode cX12_readAt 24 = .ok (.goto 6, 3) := kDec_at dA157_cX12_readAt 15 rfl
theorem dX12_readAt_33 : decode cX12_readAt 33 = .ok (.iconst 0, 1) := kDec_at dA157_cX12_readAt 16 rfl
theorem dX12_readAt_34 : decode cX12_readAt 34 = .ok (.goto 4, 3) := kDec_at dA157_cX12_readAt 17 rfl
set_option maxRecDepth 100000 in
theorem dA158_cX12_read : kDec cX12_read [(0, .aload_n 0, 1), (1, .iconst 0, 1), (2, .putfield 119, 3), (5, .iconst 0, 1), (6, .istore_n 3, 1), (7, .iload_n 3, 1), (8, .aload_n 0, 1), (9, .getfield 91, 3), (12, .if_icmp .ge 77, 3), (89, .iconst 1, 1), (90, .ireturn, 1), (15, .aload_n 0, 1), (16, .iload_n 1, 1), (17, .iload_n 3, 1), (18, .invokevirtual 122, 3), (21, .istore 4, 2), (23, .iload 4, 2), (25, .ifCond .ne 14, 3), (39, .aload_n 0, 1), (40, .getfield 61, 3), (43, .aload_n 0, 1), (44, .getfield 119, 3), (47, .iload 4, 2), (49, .ifCond .ne 8, 3)] = true := by decide +kernel
theorem dX12_read_0 : decode cX12_read 0 = .ok (.aload_n 0, 1) := kDec_at dA158_cX12_read 0 rfl
theorem dX12_read_1 : decode cX12_read 1 = .ok (.iconst 0, 1) := kDec_at dA158_cX12_read 1 rfl
theorem dX12_read_2 : decode cX12_read 2 = .ok (.putfield 119, 3) := kDec_at dA158_cX12_read 2 rfl
theorem dX12_read_5 : decode cX12_read 5 = .ok (.iconst 0, 1) := kDec_at dA158_cX12_read 3 rfl
theorem dX12_read_6 : decode cX12_read 6 = .ok (.istore_n 3, 1) := kDec_at dA158_cX12_read 4 rfl
theorem dX12_read_7 : decode cX12_read 7 = .ok (.iload_n 3, 1) := kDec_at dA158_cX12_read 5 rfl
theorem dX12_read_8 : decode cX12_read 8 = .ok (.aload_n 0, 1) := kDec_at dA158_cX12_read 6 rfl
theorem dX12_read_9 : decode cX12_read 9 = .ok (.getfield 91, 3) := kDec_at dA158_cX12_read 7 rfl
theorem dX12_read_12 : decode cX12_read 12 = .ok (.if_icmp .ge 77, 3) := kDec_at dA158_cX12_read 8 rfl
theorem dX12_read_89 : decode cX12_read 89 = .ok (.iconst 1, 1) := kDec_at dA158_cX12_read 9 rfl
theorem dX12_read_90 : decode cX12_read 90 = .ok (.ireturn, 1) := kDec_at dA158_cX12_read 10 rfl
theorem dX12_read_15 : decode cX12_read 15 = .ok (.aload_n 0, 1) := kDec_at dA158_cX12_read 11 rfl
theorem dX12_read_16 : decode cX12_read 16 = .ok (.iload_n 1, 1) := kDec_at dA158_cX12_read 12 rfl
theorem dX12_read_17 : decode cX12_read 17 = .ok (.iload_n 3, 1) := kDec_at dA158_cX12_read 13 rfl
theorem dX12_read_18 : decode cX12_read 18 = .ok (.invokevirtual 122, 3) := kDec_at dA158_cX12_read 14 rfl
theorem dX12_read_21 : decode cX12_read 21 = .ok (.istore 4, 2) := kDec_at dA158_cX12_read 15 rfl
theorem dX12_read_23 : decode cX12_read 23 = .ok (.iload 4, 2) := kDec_at dA158_cX12_read 16 rfl
theorem dX12_read_25 : decode cX12_read 25 = .ok (.ifCond .ne 14, 3) := kDec_at dA158_cX12_read 17 rfl
theorem dX12_read_39 : decode cX12_read 39 = .ok (.aload_n 0, 1) := kDec_at dA158_cX12_read 18 rfl
theorem dX12_read_40 : decode cX12_read 40 = .ok (.getfield 61, 3) := kDec_at dA158_cX12_read 19 rfl
theorem dX12_read_43 : decode cX12_read 43 = .ok (.aload_n 0, 1) := kDec_at dA158_cX12_read 20 rfl
theorem dX12_read_44 : decode cX12_read 44 = .ok (.getfield 119, 3) := kDec_at dA158_cX12_read 21 rfl
theorem dX12_read_47 : decode cX12_read 47 = .ok (.iload 4, 2) := kDec_at dA158_cX12_read 22 rfl
theorem dX12_read_49 : decode cX12_read 49 = .ok (.ifCond .ne 8, 3) := kDec_at dA158_cX12_read 23 rfl
set_option maxRecDepth 20000 in
theorem ggX12_read_X12_readAt : GoodIn wsX12_read wsX12_readAt := goodIn_r _ [11, 12, 6, 13, 14, 15, 16, 10, 17, 2, 18, 19, 20, 21, 22, 23, 24, 25, 26, 27, 28, 29, 30, 31, 32, 33, 34, 35, 36, 37, 38, 39, 40, 41, 42, 43, 44, 45, 46, 47, 48, 49, 50, 51, 52, 53, 54, 55, 56, 57, 58, 59, 60, 61, 62, 63, 64, 65, 66] rfl (by decide +kernel)
set_option maxRecDepth 20000 in
theorem gX12_read_X12_readAt : GoodIn wsX12_read (wsV RX12 122 RX12 yX12_readAt wsX12_readAt) := goodIn_app (goodIn_r _ [7, 8, 9, 10] rfl (by decide +kernel)) ggX12_read_X12_readAt
set_option maxRecDepth 100000 in
theorem dA159_cX12_read : kDec cX12_read [(57, .aload_n 0, 1), (58, .getfield 105, 3), (61, .iastore, 1), (62, .aload_n 0, 1), (63, .dup, 1), (64, .getfield 119, 3), (67, .iconst 1, 1), (68, .iadd, 1), (69, .putfield 119, 3), (72, .iload_n 3, 1), (73, .iload 4, 2), (75, .ifCond .ne 7, 3), (82, .iload 4, 2), (84, .iadd, 1), (85, .istore_n 3, 1), (86, .goto (-79), 3), (28, .iload_n 2, 1), (29, .ifCond .ne 10, 3), (52, .ldc 126, 2), (54, .goto 7, 3), (78, .iconst 1, 1), (79, .goto 5, 3), (32, .aload_n 0, 1), (33, .iload_n 3, 1)] = true := by decide +kernel
theorem dX12_read_57 : decode cX12_read 57 = .ok (.aload_n 0, 1) := kDec_at dA159_cX12_read 0 rfl
theorem dX12_read_58 : decode cX12_read 58 = .ok (.getfield 105, 3) := kDec_at dA159_cX12_read 1 rfl
theorem dX12_read_61 : decode cX12_read 61 = .ok (.iastore, 1) := kDec_at dA159_cX12_read 2 rfl
theorem dX12_read_62 : decode cX12_read 62 = .ok (.aload_n 0, 1) := kDec_at dA159_cX12_read 3 rfl
theorem dX12_read_63 : decode cX12_read 63 = .ok (.dup, 1) := kDec_at dA159_cX12_read 4 rfl
theorem dX12_read_64 : decode cX12_read 64 = .ok (.getfield 119, 3) := kDec_at dA159_cX12_read 5 rfl
theorem dX12_read_67 : decode cX12_read 67 = .ok (.iconst 1, 1) := kDec_at dA159_cX12_read 6 rfl
theorem dX12_read_68 : decode cX12_read 68 = .ok (.iadd, 1) := kDec_at dA159_cX12_read 7 rfl
theorem dX12_read_69 : decode cX12_read 69 = .ok (.putfield 119, 3) := kDec_at dA159_cX12_read 8 rfl
theorem dX12_read_72 : decode cX12_read 72 = .ok (.iload_n 3, 1) := kDec_at dA159_cX12_read 9 rfl
theorem dX12_read_73 : decode cX12_read 73 = .ok (.iload 4, 2) := kDec_at dA159_cX12_read 10 rfl
theorem dX12_read_75 : decode cX12_read 75 = .ok (.ifCond .ne 7, 3) := kDec_at dA159_cX12_read 11 rfl
theorem dX12_read_82 : decode cX12_read 82 = .ok (.iload 4, 2) := kDec_at dA159_cX12_read 12 rfl
theorem dX12_read_84 : decode cX12_read 84 = .ok (.iadd, 1) := kDec_at dA159_cX12_read 13 rfl
theorem dX12_read_85 : decode cX12_read 85 = .ok (.istore_n 3, 1) := kDec_at dA159_cX12_read 14 rfl
theorem dX12_read_86 : decode cX12_read 86 = .ok (.goto (-79), 3) := kDec_at dA159_cX12_read 15 rfl
theorem dX12_read_28 : decode cX12_read 28 = .ok (.iload_n 2, 1) := kDec_at dA159_cX12_read 16 rfl
theorem dX12_read_29 : decode cX12_read 29 = .ok (.ifCond .ne 10, 3) := kDec_at dA159_cX12_read 17 rfl
theorem dX12_read_52 : decode cX12_read 52 = .ok (.ldc 126, 2) := kDec_at dA159_cX12_read 18 rfl
theorem dX12_read_54 : decode cX12_read 54 = .ok (.goto 7, 3) := kDec_at dA159_cX12_read 19 rfl
theorem dX12_read_78 : decode cX12_read 78 = .ok (.iconst 1, 1) := kDec_at dA159_cX12_read 20 rfl
theorem dX12_read_79 : decode cX12_read 79 = .ok (.goto 5, 3) := kDec_at dA159_cX12_read 21 rfl
theorem dX12_read_32 : decode cX12_read 32 = .ok (.aload_n 0, 1) := kDec_at dA159_cX12_read 22 rfl
theorem dX12_read_33 : decode cX12_read 33 = .ok (.iload_n 3, 1) := kDec_at dA159_cX12_read 23 rfl
set_option maxRecDepth 100000 in
theorem dA160_cX12_read : kDec cX12_read [(34, .putfield 102, 3), (37, .iconst 0, 1), (38, .ireturn, 1)] = true := by decide +kernel
theorem dX12_read_34 : decode cX12_read 34 = .ok (.putfield 102, 3) := kDec_at dA160_cX12_read 0 rfl
theorem dX12_read_37 : decode cX12_read 37 = .ok (.iconst 0, 1) := kDec_at dA160_cX12_read 1 rfl
theorem dX12_read_38 : decode cX12_read 38 = .ok (.ireturn, 1) := kDec_at dA160_cX12_read 2 rfl
set_option maxRecDepth 100000 in
theorem dA161_cX12_does : kDec cX12_does [(0, .aload_n 0, 1), (1, .iconst (-1), 1), (2, .putfield 102, 3), (5, .aload_n 0, 1), (6, .iload_n 1, 1), (7, .aload_n 3, 1), (8, .iload 4, 2), (10, .invokevirtual 127, 3), (13, .ifCond .ne 5, 3), (18, .aload_n 0, 1), (19, .getfield 91, 3), (22, .sipush 900, 3), (25, .if_icmp .le 5, 3), (30, .aload_n 0, 1), (31, .iload_n 2, 1), (32, .iconst 0, 1), (33, .invokevirtual 131, 3), (36, .ifCond .ne 5, 3), (41, .aload_n 0, 1), (42, .getfield 119, 3), (45, .sipush 300, 3), (48, .if_icmp .gt 7, 3), (55, .iconst 0, 1), (56, .ireturn, 1)] = true := by decide +kernel
theorem dX12_does_0 : decode cX12_does 0 = .ok (.aload_n 0, 1) := kDec_at dA161_cX12_does 0 rfl
theorem dX12_does_1 : decode cX12_does 1 = .ok (.iconst (-1), 1) := kDec_at dA161_cX12_does 1 rfl
theorem dX12_does_2 : decode cX12_does 2 = .ok (.putfield 102, 3) := kDec_at dA161_cX12_does 2 rfl
theorem dX12_does_5 : decode cX12_does 5 = .ok (.aload_n 0, 1) := kDec_at dA161_cX12_does 3 rfl
theorem dX12_does_6 : decode cX12_does 6 = .ok (.iload_n 1, 1) := kDec_at dA161_cX12_does 4 rfl
theorem dX12_does_7 : decode cX12_does 7 = .ok (.aload_n 3, 1) := kDec_at dA161_cX12_does 5 rfl
theorem dX12_does_8 : decode cX12_does 8 = .ok (.iload 4, 2) := kDec_at dA161_cX12_does 6 rfl
theorem dX12_does_10 : decode cX12_does 10 = .ok (.invokevirtual 127, 3) := kDec_at dA161_cX12_does 7 rfl
theorem dX12_does_13 : decode cX12_does 13 = .ok (.ifCond .ne 5, 3) := kDec_at dA161_cX12_does 8 rfl
theorem dX12_does_18 : decode cX12_does 18 = .ok (.aload_n 0, 1) := kDec_at dA161_cX12_does 9 rfl
theorem dX12_does_19 : decode cX12_does 19 = .ok (.getfield 91, 3) := kDec_at dA161_cX12_does 10 rfl
theorem dX12_does_22 : decode cX12_does 22 = .ok (.sipush 900, 3) := kDec_at dA161_cX12_does 11 rfl
theorem dX12_does_25 : decode cX12_does 25 = .ok (.if_icmp .le 5, 3) := kDec_at dA161_cX12_does 12 rfl
theorem dX12_does_30 : decode cX12_does 30 = .ok (.aload_n 0, 1) := kDec_at dA161_cX12_does 13 rfl
theorem dX12_does_31 : decode cX12_does 31 = .ok (.iload_n 2, 1) := kDec_at dA161_cX12_does 14 rfl
theorem dX12_does_32 : decode cX12_does 32 = .ok (.iconst 0, 1) := kDec_at dA161_cX12_does 15 rfl
theorem dX12_does_33 : decode cX12_does 33 = .ok (.invokevirtual 131, 3) := kDec_at dA161_cX12_does 16 rfl
theorem dX12_does_36 : decode cX12_does 36 = .ok (.ifCond .ne 5, 3) := kDec_at dA161_cX12_does 17 rfl
theorem dX12_does_41 : decode cX12_does 41 = .ok (.aload_n 0, 1) := kDec_at dA161_cX12_does 18 rfl
theorem dX12_does_42 : decode cX12_does 42 = .ok (.getfield 119, 3) := kDec_at dA161_cX12_does 19 rfl
theorem dX12_does_45 : decode cX12_does 45 = .ok (.sipush 300, 3) := kDec_at dA161_cX12_does 20 rfl
theorem dX12_does_48 : decode cX12_does 48 = .ok (.if_icmp .gt 7, 3) := kDec_at dA161_cX12_does 21 rfl
theorem dX12_does_55 : decode cX12_does 55 = .ok (.iconst 0, 1) := kDec_at dA161_cX12_does 22 rfl
theorem dX12_does_56 : decode cX12_does 56 = .ok (.ireturn, 1) := kDec_at dA161_cX12_does 23 rfl
set_option maxRecDepth 20000 in
theorem ggX12_does_X12_write : GoodIn wsX12_does wsX12_write := goodIn_r _ [8, 2, 1, 9, 10, 11, 7, 12, 13, 14, 15, 16, 17, 18, 19, 44, 45, 46, 47, 48, 49, 50, 51, 52, 53, 54, 55, 56, 57, 58, 59, 60, 61, 62, 63, 64, 65, 66, 67, 68, 69, 70, 71, 72, 73, 74, 75, 76, 77, 78, 79, 80, 81, 82, 83] rfl (by decide +kernel)
set_option maxRecDepth 20000 in
theorem gX12_does_X12_write : GoodIn wsX12_does (wsV RX12 127 RX12 yX12_write wsX12_write) := goodIn_app (goodIn_r _ [4, 5, 6, 7] rfl (by decide +kernel)) ggX12_does_X12_write
set_option maxRecDepth 20000 in
theorem ggX12_does_X12_read : GoodIn wsX12_does wsX12_read := goodIn_r _ [23, 3, 2, 1, 24, 25, 26, 27, 28, 29, 7, 30, 19, 31, 32, 33, 34, 35, 36, 37, 38, 39, 40, 41, 14, 42, 43, 44, 45, 46, 47, 48, 49, 50, 51, 52, 53, 54, 55, 56, 57, 58, 59, 60, 61, 62, 63, 64, 65, 66, 67, 68, 69, 70, 71, 72, 73, 74, 75, 76, 77, 78, 79, 80, 81, 82, 83] rfl (by decide +kernel)
set_option maxRecDepth 20000 in
theorem gX12_does_X12_read : GoodIn wsX12_does (wsV RX12 131 RX12 yX12_read wsX12_read) := goodIn_app (goodIn_r _ [20, 21, 22, 7] rfl (by decide +kernel)) ggX12_does_X12_read
set_option maxRecDepth 100000 in
theorem dA162_cX12_does : kDec cX12_does [(51, .iconst 1, 1), (52, .goto 4, 3), (39, .iconst 0, 1), (40, .ireturn, 1), (28, .iconst 0, 1), (29, .ireturn, 1), (16, .iconst 0, 1), (17, .ireturn, 1)] = true := by decide +kernel
theorem dX12_does_51 : decode cX12_does 51 = .ok (.iconst 1, 1) := kDec_at dA162_cX12_does 0 rfl
theorem dX12_does_52 : decode cX12_does 52 = .ok (.goto 4, 3) := kDec_at dA162_cX12_does 1 rfl
theorem dX12_does_39 : decode cX12_does 39 = .ok (.iconst 0, 1) := kDec_at dA162_cX12_does 2 rfl
theorem dX12_does_40 : decode cX12_does 40 = .ok (.ireturn, 1) := kDec_at dA162_cX12_does 3 rfl
theorem dX12_does_28 : decode cX12_does 28 = .ok (.iconst 0, 1) := kDec_at dA162_cX12_does 4 rfl
theorem dX12_does_29 : decode cX12_does 29 = .ok (.ireturn, 1) := kDec_at dA162_cX12_does 5 rfl
theorem dX12_does_16 : decode cX12_does 16 = .ok (.iconst 0, 1) := kDec_at dA162_cX12_does 6 rfl
theorem dX12_does_17 : decode cX12_does 17 = .ok (.ireturn, 1) := kDec_at dA162_cX12_does 7 rfl
set_option maxRecDepth 100000 in
theorem dA163_cX12_undoes : kDec cX12_undoes [(0, .aload_n 0, 1), (1, .iload_n 2, 1), (2, .iload_n 1, 1), (3, .aload_n 0, 1), (4, .getfield 64, 3), (7, .aload_n 0, 1), (8, .getfield 135, 3), (11, .invokevirtual 138, 3), (14, .ifCond .ne 5, 3), (19, .aload_n 0, 1), (20, .getfield 119, 3), (23, .istore_n 3, 1), (24, .iconst 0, 1), (25, .istore 4, 2), (27, .iload 4, 2), (29, .iload_n 3, 1), (30, .if_icmp .ge 23, 3), (85, .iconst 0, 1), (86, .istore 5, 2), (88, .iload 4, 2), (90, .ifCond .eq 42, 3), (132, .aload_n 0, 1), (133, .iconst (-1), 1), (134, .putfield 102, 3)] = true := by decide +kernel
theorem dX12_undoes_0 : decode cX12_undoes 0 = .ok (.aload_n 0, 1) := kDec_at dA163_cX12_undoes 0 rfl
theorem dX12_undoes_1 : decode cX12_undoes 1 = .ok (.iload_n 2, 1) := kDec_at dA163_cX12_undoes 1 rfl
theorem dX12_undoes_2 : decode cX12_undoes 2 = .ok (.iload_n 1, 1) := kDec_at dA163_cX12_undoes 2 rfl
theorem dX12_undoes_3 : decode cX12_undoes 3 = .ok (.aload_n 0, 1) := kDec_at dA163_cX12_undoes 3 rfl
theorem dX12_undoes_4 : decode cX12_undoes 4 = .ok (.getfield 64, 3) := kDec_at dA163_cX12_undoes 4 rfl
theorem dX12_undoes_7 : decode cX12_undoes 7 = .ok (.aload_n 0, 1) := kDec_at dA163_cX12_undoes 5 rfl
theorem dX12_undoes_8 : decode cX12_undoes 8 = .ok (.getfield 135, 3) := kDec_at dA163_cX12_undoes 6 rfl
theorem dX12_undoes_11 : decode cX12_undoes 11 = .ok (.invokevirtual 138, 3) := kDec_at dA163_cX12_undoes 7 rfl
theorem dX12_undoes_14 : decode cX12_undoes 14 = .ok (.ifCond .ne 5, 3) := kDec_at dA163_cX12_undoes 8 rfl
theorem dX12_undoes_19 : decode cX12_undoes 19 = .ok (.aload_n 0, 1) := kDec_at dA163_cX12_undoes 9 rfl
theorem dX12_undoes_20 : decode cX12_undoes 20 = .ok (.getfield 119, 3) := kDec_at dA163_cX12_undoes 10 rfl
theorem dX12_undoes_23 : decode cX12_undoes 23 = .ok (.istore_n 3, 1) := kDec_at dA163_cX12_undoes 11 rfl
theorem dX12_undoes_24 : decode cX12_undoes 24 = .ok (.iconst 0, 1) := kDec_at dA163_cX12_undoes 12 rfl
theorem dX12_undoes_25 : decode cX12_undoes 25 = .ok (.istore 4, 2) := kDec_at dA163_cX12_undoes 13 rfl
theorem dX12_undoes_27 : decode cX12_undoes 27 = .ok (.iload 4, 2) := kDec_at dA163_cX12_undoes 14 rfl
theorem dX12_undoes_29 : decode cX12_undoes 29 = .ok (.iload_n 3, 1) := kDec_at dA163_cX12_undoes 15 rfl
theorem dX12_undoes_30 : decode cX12_undoes 30 = .ok (.if_icmp .ge 23, 3) := kDec_at dA163_cX12_undoes 16 rfl
theorem dX12_undoes_85 : decode cX12_undoes 85 = .ok (.iconst 0, 1) := kDec_at dA163_cX12_undoes 17 rfl
theorem dX12_undoes_86 : decode cX12_undoes 86 = .ok (.istore 5, 2) := kDec_at dA163_cX12_undoes 18 rfl
theorem dX12_undoes_88 : decode cX12_undoes 88 = .ok (.iload 4, 2) := kDec_at dA163_cX12_undoes 19 rfl
theorem dX12_undoes_90 : decode cX12_undoes 90 = .ok (.ifCond .eq 42, 3) := kDec_at dA163_cX12_undoes 20 rfl
theorem dX12_undoes_132 : decode cX12_undoes 132 = .ok (.aload_n 0, 1) := kDec_at dA163_cX12_undoes 21 rfl
theorem dX12_undoes_133 : decode cX12_undoes 133 = .ok (.iconst (-1), 1) := kDec_at dA163_cX12_undoes 22 rfl
theorem dX12_undoes_134 : decode cX12_undoes 134 = .ok (.putfield 102, 3) := kDec_at dA163_cX12_undoes 23 rfl
set_option maxRecDepth 20000 in
theorem ggX12_undoes_X12_does : GoodIn wsX12_undoes wsX12_does := goodIn_r _ [11, 6, 12, 3, 13, 14, 15, 10, 16, 17, 18, 19, 20, 21, 22, 23, 24, 25, 26, 27, 28, 29, 30, 31, 5, 32, 33, 34, 35, 36, 37, 38, 39, 40, 41, 42, 43, 44, 45, 46, 47, 48, 49, 50, 51, 52, 53, 54, 55, 56, 57, 58, 59, 60, 61, 62, 63, 64, 65, 66, 67, 68, 69, 70, 71, 72, 73, 74, 75, 76, 77, 78, 79, 80, 81, 82, 83, 84, 85, 86, 87, 88, 89, 90] rfl (by decide +kernel)
set_option maxRecDepth 20000 in
theorem gX12_undoes_X12_does : GoodIn wsX12_undoes (wsV RX12 138 RX12 yX12_does wsX12_does) := goodIn_app (goodIn_r _ [7, 8, 9, 10] rfl (by decide +kernel)) ggX12_undoes_X12_does
set_option maxRecDepth 100000 in
theorem dA164_cX12_undoes : kDec cX12_undoes [(137, .iload 4, 2), (139, .ifCond .ne 5, 3), (142, .iconst 0, 1), (143, .ireturn, 1), (93, .iload 5, 2), (95, .aload_n 0, 1), (96, .getfield 135, 3), (99, .if_icmp .ge 33, 3), (144, .iconst 0, 1), (145, .istore 5, 2), (147, .iload 5, 2), (149, .iload_n 3, 1), (150, .if_icmp .ge 23, 3), (173, .aload_n 0, 1), (174, .iload_n 3, 1), (175, .putfield 135, 3), (178, .iconst 1, 1), (179, .ireturn, 1), (153, .aload_n 0, 1), (154, .getfield 64, 3), (157, .iload 5, 2), (159, .aload_n 0, 1), (160, .getfield 67, 3), (163, .iload 5, 2)] = true := by decide +kernel
theorem dX12_undoes_137 : decode cX12_undoes 137 = .ok (.iload 4, 2) := kDec_at dA164_cX12_undoes 0 rfl
theorem dX12_undoes_139 : decode cX12_undoes 139 = .ok (.ifCond .ne 5, 3) := kDec_at dA164_cX12_undoes 1 rfl
theorem dX12_undoes_142 : decode cX12_undoes 142 = .ok (.iconst 0, 1) := kDec_at dA164_cX12_undoes 2 rfl
theorem dX12_undoes_143 : decode cX12_undoes 143 = .ok (.ireturn, 1) := kDec_at dA164_cX12_undoes 3 rfl
theorem dX12_undoes_93 : decode cX12_undoes 93 = .ok (.iload 5, 2) := kDec_at dA164_cX12_undoes 4 rfl
theorem dX12_undoes_95 : decode cX12_undoes 95 = .ok (.aload_n 0, 1) := kDec_at dA164_cX12_undoes 5 rfl
theorem dX12_undoes_96 : decode cX12_undoes 96 = .ok (.getfield 135, 3) := kDec_at dA164_cX12_undoes 6 rfl
theorem dX12_undoes_99 : decode cX12_undoes 99 = .ok (.if_icmp .ge 33, 3) := kDec_at dA164_cX12_undoes 7 rfl
theorem dX12_undoes_144 : decode cX12_undoes 144 = .ok (.iconst 0, 1) := kDec_at dA164_cX12_undoes 8 rfl
theorem dX12_undoes_145 : decode cX12_undoes 145 = .ok (.istore 5, 2) := kDec_at dA164_cX12_undoes 9 rfl
theorem dX12_undoes_147 : decode cX12_undoes 147 = .ok (.iload 5, 2) := kDec_at dA164_cX12_undoes 10 rfl
theorem dX12_undoes_149 : decode cX12_undoes 149 = .ok (.iload_n 3, 1) := kDec_at dA164_cX12_undoes 11 rfl
theorem dX12_undoes_150 : decode cX12_undoes 150 = .ok (.if_icmp .ge 23, 3) := kDec_at dA164_cX12_undoes 12 rfl
theorem dX12_undoes_173 : decode cX12_undoes 173 = .ok (.aload_n 0, 1) := kDec_at dA164_cX12_undoes 13 rfl
theorem dX12_undoes_174 : decode cX12_undoes 174 = .ok (.iload_n 3, 1) := kDec_at dA164_cX12_undoes 14 rfl
theorem dX12_undoes_175 : decode cX12_undoes 175 = .ok (.putfield 135, 3) := kDec_at dA164_cX12_undoes 15 rfl
theorem dX12_undoes_178 : decode cX12_undoes 178 = .ok (.iconst 1, 1) := kDec_at dA164_cX12_undoes 16 rfl
theorem dX12_undoes_179 : decode cX12_undoes 179 = .ok (.ireturn, 1) := kDec_at dA164_cX12_undoes 17 rfl
theorem dX12_undoes_153 : decode cX12_undoes 153 = .ok (.aload_n 0, 1) := kDec_at dA164_cX12_undoes 18 rfl
theorem dX12_undoes_154 : decode cX12_undoes 154 = .ok (.getfield 64, 3) := kDec_at dA164_cX12_undoes 19 rfl
theorem dX12_undoes_157 : decode cX12_undoes 157 = .ok (.iload 5, 2) := kDec_at dA164_cX12_undoes 20 rfl
theorem dX12_undoes_159 : decode cX12_undoes 159 = .ok (.aload_n 0, 1) := kDec_at dA164_cX12_undoes 21 rfl
theorem dX12_undoes_160 : decode cX12_undoes 160 = .ok (.getfield 67, 3) := kDec_at dA164_cX12_undoes 22 rfl
theorem dX12_undoes_163 : decode cX12_undoes 163 = .ok (.iload 5, 2) := kDec_at dA164_cX12_undoes 23 rfl
set_option maxRecDepth 100000 in
theorem dA165_cX12_undoes : kDec cX12_undoes [(165, .iaload, 1), (166, .iastore, 1), (167, .iinc 5 1, 3), (170, .goto (-23), 3), (102, .aload_n 0, 1), (103, .getfield 61, 3), (106, .iload 5, 2), (108, .iaload, 1), (109, .aload_n 0, 1), (110, .getfield 64, 3), (113, .iload 5, 2), (115, .iaload, 1), (116, .if_icmp .ne 7, 3), (123, .iconst 0, 1), (124, .istore 4, 2), (126, .iinc 5 1, 3), (129, .goto (-41), 3), (119, .iconst 1, 1), (120, .goto 4, 3), (53, .aload_n 0, 1), (54, .iload_n 1, 1), (55, .iload_n 2, 1), (56, .aload_n 0, 1), (57, .getfield 67, 3)] = true := by decide +kernel
theorem dX12_undoes_165 : decode cX12_undoes 165 = .ok (.iaload, 1) := kDec_at dA165_cX12_undoes 0 rfl
theorem dX12_undoes_166 : decode cX12_undoes 166 = .ok (.iastore, 1) := kDec_at dA165_cX12_undoes 1 rfl
theorem dX12_undoes_167 : decode cX12_undoes 167 = .ok (.iinc 5 1, 3) := kDec_at dA165_cX12_undoes 2 rfl
theorem dX12_undoes_170 : decode cX12_undoes 170 = .ok (.goto (-23), 3) := kDec_at dA165_cX12_undoes 3 rfl
theorem dX12_undoes_102 : decode cX12_undoes 102 = .ok (.aload_n 0, 1) := kDec_at dA165_cX12_undoes 4 rfl
theorem dX12_undoes_103 : decode cX12_undoes 103 = .ok (.getfield 61, 3) := kDec_at dA165_cX12_undoes 5 rfl
theorem dX12_undoes_106 : decode cX12_undoes 106 = .ok (.iload 5, 2) := kDec_at dA165_cX12_undoes 6 rfl
theorem dX12_undoes_108 : decode cX12_undoes 108 = .ok (.iaload, 1) := kDec_at dA165_cX12_undoes 7 rfl
theorem dX12_undoes_109 : decode cX12_undoes 109 = .ok (.aload_n 0, 1) := kDec_at dA165_cX12_undoes 8 rfl
theorem dX12_undoes_110 : decode cX12_undoes 110 = .ok (.getfield 64, 3) := kDec_at dA165_cX12_undoes 9 rfl
theorem dX12_undoes_113 : decode cX12_undoes 113 = .ok (.iload 5, 2) := kDec_at dA165_cX12_undoes 10 rfl
theorem dX12_undoes_115 : decode cX12_undoes 115 = .ok (.iaload, 1) := kDec_at dA165_cX12_undoes 11 rfl
theorem dX12_undoes_116 : decode cX12_undoes 116 = .ok (.if_icmp .ne 7, 3) := kDec_at dA165_cX12_undoes 12 rfl
theorem dX12_undoes_123 : decode cX12_undoes 123 = .ok (.iconst 0, 1) := kDec_at dA165_cX12_undoes 13 rfl
theorem dX12_undoes_124 : decode cX12_undoes 124 = .ok (.istore 4, 2) := kDec_at dA165_cX12_undoes 14 rfl
theorem dX12_undoes_126 : decode cX12_undoes 126 = .ok (.iinc 5 1, 3) := kDec_at dA165_cX12_undoes 15 rfl
theorem dX12_undoes_129 : decode cX12_undoes 129 = .ok (.goto (-41), 3) := kDec_at dA165_cX12_undoes 16 rfl
theorem dX12_undoes_119 : decode cX12_undoes 119 = .ok (.iconst 1, 1) := kDec_at dA165_cX12_undoes 17 rfl
theorem dX12_undoes_120 : decode cX12_undoes 120 = .ok (.goto 4, 3) := kDec_at dA165_cX12_undoes 18 rfl
theorem dX12_undoes_53 : decode cX12_undoes 53 = .ok (.aload_n 0, 1) := kDec_at dA165_cX12_undoes 19 rfl
theorem dX12_undoes_54 : decode cX12_undoes 54 = .ok (.iload_n 1, 1) := kDec_at dA165_cX12_undoes 20 rfl
theorem dX12_undoes_55 : decode cX12_undoes 55 = .ok (.iload_n 2, 1) := kDec_at dA165_cX12_undoes 21 rfl
theorem dX12_undoes_56 : decode cX12_undoes 56 = .ok (.aload_n 0, 1) := kDec_at dA165_cX12_undoes 22 rfl
theorem dX12_undoes_57 : decode cX12_undoes 57 = .ok (.getfield 67, 3) := kDec_at dA165_cX12_undoes 23 rfl
set_option maxRecDepth 100000 in
theorem dA166_cX12_undoes : kDec cX12_undoes [(60, .iload_n 3, 1), (61, .invokevirtual 138, 3), (64, .ifCond .eq 18, 3), (82, .iconst 0, 1), (83, .istore 4, 2), (67, .aload_n 0, 1), (68, .getfield 119, 3), (71, .aload_n 0, 1), (72, .getfield 135, 3), (75, .if_icmp .ne 7, 3), (78, .iconst 1, 1), (79, .goto 4, 3), (33, .aload_n 0, 1), (34, .getfield 67, 3), (37, .iload 4, 2), (39, .aload_n 0, 1), (40, .getfield 61, 3), (43, .iload 4, 2), (45, .iaload, 1), (46, .iastore, 1), (47, .iinc 4 1, 3), (50, .goto (-23), 3), (17, .iconst 0, 1), (18, .ireturn, 1)] = true := by decide +kernel
theorem dX12_undoes_60 : decode cX12_undoes 60 = .ok (.iload_n 3, 1) := kDec_at dA166_cX12_undoes 0 rfl
theorem dX12_undoes_61 : decode cX12_undoes 61 = .ok (.invokevirtual 138, 3) := kDec_at dA166_cX12_undoes 1 rfl
theorem dX12_undoes_64 : decode cX12_undoes 64 = .ok (.ifCond .eq 18, 3) := kDec_at dA166_cX12_undoes 2 rfl
theorem dX12_undoes_82 : decode cX12_undoes 82 = .ok (.iconst 0, 1) := kDec_at dA166_cX12_undoes 3 rfl
theorem dX12_undoes_83 : decode cX12_undoes 83 = .ok (.istore 4, 2) := kDec_at dA166_cX12_undoes 4 rfl
theorem dX12_undoes_67 : decode cX12_undoes 67 = .ok (.aload_n 0, 1) := kDec_at dA166_cX12_undoes 5 rfl
theorem dX12_undoes_68 : decode cX12_undoes 68 = .ok (.getfield 119, 3) := kDec_at dA166_cX12_undoes 6 rfl
theorem dX12_undoes_71 : decode cX12_undoes 71 = .ok (.aload_n 0, 1) := kDec_at dA166_cX12_undoes 7 rfl
theorem dX12_undoes_72 : decode cX12_undoes 72 = .ok (.getfield 135, 3) := kDec_at dA166_cX12_undoes 8 rfl
theorem dX12_undoes_75 : decode cX12_undoes 75 = .ok (.if_icmp .ne 7, 3) := kDec_at dA166_cX12_undoes 9 rfl
theorem dX12_undoes_78 : decode cX12_undoes 78 = .ok (.iconst 1, 1) := kDec_at dA166_cX12_undoes 10 rfl
theorem dX12_undoes_79 : decode cX12_undoes 79 = .ok (.goto 4, 3) := kDec_at dA166_cX12_undoes 11 rfl
theorem dX12_undoes_33 : decode cX12_undoes 33 = .ok (.aload_n 0, 1) := kDec_at dA166_cX12_undoes 12 rfl
theorem dX12_undoes_34 : decode cX12_undoes 34 = .ok (.getfield 67, 3) := kDec_at dA166_cX12_undoes 13 rfl
theorem dX12_undoes_37 : decode cX12_undoes 37 = .ok (.iload 4, 2) := kDec_at dA166_cX12_undoes 14 rfl
theorem dX12_undoes_39 : decode cX12_undoes 39 = .ok (.aload_n 0, 1) := kDec_at dA166_cX12_undoes 15 rfl
theorem dX12_undoes_40 : decode cX12_undoes 40 = .ok (.getfield 61, 3) := kDec_at dA166_cX12_undoes 16 rfl
theorem dX12_undoes_43 : decode cX12_undoes 43 = .ok (.iload 4, 2) := kDec_at dA166_cX12_undoes 17 rfl
theorem dX12_undoes_45 : decode cX12_undoes 45 = .ok (.iaload, 1) := kDec_at dA166_cX12_undoes 18 rfl
theorem dX12_undoes_46 : decode cX12_undoes 46 = .ok (.iastore, 1) := kDec_at dA166_cX12_undoes 19 rfl
theorem dX12_undoes_47 : decode cX12_undoes 47 = .ok (.iinc 4 1, 3) := kDec_at dA166_cX12_undoes 20 rfl
theorem dX12_undoes_50 : decode cX12_undoes 50 = .ok (.goto (-23), 3) := kDec_at dA166_cX12_undoes 21 rfl
theorem dX12_undoes_17 : decode cX12_undoes 17 = .ok (.iconst 0, 1) := kDec_at dA166_cX12_undoes 22 rfl
theorem dX12_undoes_18 : decode cX12_undoes 18 = .ok (.ireturn, 1) := kDec_at dA166_cX12_undoes 23 rfl
set_option maxRecDepth 100000 in
theorem dA167_cX12_takeText : kDec cX12_takeText [(0, .aload_n 0, 1), (1, .aload_n 0, 1), (2, .getfield 13, 3), (5, .iconst 0, 1), (6, .iaload, 1), (7, .putfield 135, 3), (10, .iconst 0, 1), (11, .istore_n 1, 1), (12, .iload_n 1, 1), (13, .aload_n 0, 1), (14, .getfield 135, 3), (17, .if_icmp .ge 21, 3), (38, .return_, 1), (20, .aload_n 0, 1), (21, .getfield 64, 3), (24, .iload_n 1, 1), (25, .aload_n 0, 1), (26, .getfield 16, 3), (29, .iload_n 1, 1), (30, .iaload, 1), (31, .iastore, 1), (32, .iinc 1 1, 3), (35, .goto (-23), 3)] = true := by decide +kernel
theorem dX12_takeText_0 : decode cX12_takeText 0 = .ok (.aload_n 0, 1) := kDec_at dA167_cX12_takeText 0 rfl
theorem dX12_takeText_1 : decode cX12_takeText 1 = .ok (.aload_n 0, 1) := kDec_at dA167_cX12_takeText 1 rfl
theorem dX12_takeText_2 : decode cX12_takeText 2 = .ok (.getfield 13, 3) := kDec_at dA167_cX12_takeText 2 rfl
theorem dX12_takeText_5 : decode cX12_takeText 5 = .ok (.iconst 0, 1) := kDec_at dA167_cX12_takeText 3 rfl
theorem dX12_takeText_6 : decode cX12_takeText 6 = .ok (.iaload, 1) := kDec_at dA167_cX12_takeText 4 rfl
theorem dX12_takeText_7 : decode cX12_takeText 7 = .ok (.putfield 135, 3) := kDec_at dA167_cX12_takeText 5 rfl
theorem dX12_takeText_10 : decode cX12_takeText 10 = .ok (.iconst 0, 1) := kDec_at dA167_cX12_takeText 6 rfl
theorem dX12_takeText_11 : decode cX12_takeText 11 = .ok (.istore_n 1, 1) := kDec_at dA167_cX12_takeText 7 rfl
theorem dX12_takeText_12 : decode cX12_takeText 12 = .ok (.iload_n 1, 1) := kDec_at dA167_cX12_takeText 8 rfl
theorem dX12_takeText_13 : decode cX12_takeText 13 = .ok (.aload_n 0, 1) := kDec_at dA167_cX12_takeText 9 rfl
theorem dX12_takeText_14 : decode cX12_takeText 14 = .ok (.getfield 135, 3) := kDec_at dA167_cX12_takeText 10 rfl
theorem dX12_takeText_17 : decode cX12_takeText 17 = .ok (.if_icmp .ge 21, 3) := kDec_at dA167_cX12_takeText 11 rfl
theorem dX12_takeText_38 : decode cX12_takeText 38 = .ok (.return_, 1) := kDec_at dA167_cX12_takeText 12 rfl
theorem dX12_takeText_20 : decode cX12_takeText 20 = .ok (.aload_n 0, 1) := kDec_at dA167_cX12_takeText 13 rfl
theorem dX12_takeText_21 : decode cX12_takeText 21 = .ok (.getfield 64, 3) := kDec_at dA167_cX12_takeText 14 rfl
theorem dX12_takeText_24 : decode cX12_takeText 24 = .ok (.iload_n 1, 1) := kDec_at dA167_cX12_takeText 15 rfl
theorem dX12_takeText_25 : decode cX12_takeText 25 = .ok (.aload_n 0, 1) := kDec_at dA167_cX12_takeText 16 rfl
theorem dX12_takeText_26 : decode cX12_takeText 26 = .ok (.getfield 16, 3) := kDec_at dA167_cX12_takeText 17 rfl
theorem dX12_takeText_29 : decode cX12_takeText 29 = .ok (.iload_n 1, 1) := kDec_at dA167_cX12_takeText 18 rfl
theorem dX12_takeText_30 : decode cX12_takeText 30 = .ok (.iaload, 1) := kDec_at dA167_cX12_takeText 19 rfl
theorem dX12_takeText_31 : decode cX12_takeText 31 = .ok (.iastore, 1) := kDec_at dA167_cX12_takeText 20 rfl
theorem dX12_takeText_32 : decode cX12_takeText 32 = .ok (.iinc 1 1, 3) := kDec_at dA167_cX12_takeText 21 rfl
theorem dX12_takeText_35 : decode cX12_takeText 35 = .ok (.goto (-23), 3) := kDec_at dA167_cX12_takeText 22 rfl

end

/-! 50.ref -/
section
/-! rows of the reference: what holds of a beginning, of marks, of the best ends -/
def prg (n lo hi : Int) (f : Nat → Int32) : Prop := ∀ j : Nat, (j : Int) < n → lo ≤ (f j).toInt ∧ (f j).toInt ≤ hi
theorem prg_of {n lo hi : Int} {f : Nat → Int32} (h : rg lo hi f) : prg n lo hi f := fun j _ => h j
theorem prg_0 {lo hi n : Int} {f : Nat → Int32} (h : n ≤ 0) : prg n lo hi f := fun j hj => by omega
theorem prg_step {lo hi : Int} {f : Nat → Int32} {k k' x : Int32} (h : prg k.toInt lo hi f) (e : x = f k.toNatClampNeg) (hk : 0 ≤ k.toInt) (hk' : k'.toInt = k.toInt + 1) (hx : lo ≤ x.toInt ∧ x.toInt ≤ hi) : prg k'.toInt lo hi f := by
  intro j hj
  by_cases z : j = k.toNatClampNeg
  · rw [z, ← e]; exact hx
  · have a := v_clamp hk
    exact h j (by omega)
theorem prg_at {n lo hi : Int} {f : Nat → Int32} {k x : Int32} (h : prg n lo hi f) (e : x = f k.toNatClampNeg) (hk : 0 ≤ k.toInt) (hn : k.toInt < n) : lo ≤ x.toInt ∧ x.toInt ≤ hi := by
  have a := v_clamp hk
  rw [e]; exact h _ (by omega)
theorem v_mulb {a b x : Int32} (h : x = a * b) (h1 : 1 ≤ a.toInt) (h2 : a.toInt ≤ 10000) (h3 : 1 ≤ b.toInt) (h4 : b.toInt ≤ 6) : a.toInt ≤ x.toInt ∧ x.toInt ≤ 6 * a.toInt := by
  have e1 : a.toInt * 1 ≤ a.toInt * b.toInt := Int.mul_le_mul_of_nonneg_left h3 (by omega)
  have e2 : a.toInt * b.toInt ≤ a.toInt * 6 := Int.mul_le_mul_of_nonneg_left h4 (by omega)
  rw [v_mul h (by omega) (by omega)]
  omega
/-- at most one of the first n entries is the mark -/
def mk1 (n : Int) (f : Nat → Int32) : Prop := ∀ i j : Nat, i < j → (j : Int) < n → (f i).toInt = 65533 → ¬ (f j).toInt = 65533
/-- none of the first n entries is the mark -/
def mk0 (n : Int) (f : Nat → Int32) : Prop := ∀ j : Nat, (j : Int) < n → ¬ (f j).toInt = 65533
/-- as many marks as m tells, as far as none or one is told -/
def mkN (n m : Int) (f : Nat → Int32) : Prop := (m = 0 → mk0 n f) ∧ (m = 1 → mk1 n f)
theorem mkN_0 {n : Int} {f : Nat → Int32} (h : n ≤ 0) : mkN n 0 f := ⟨fun _ j hj => by omega, fun e => by omega⟩
theorem mkN_no {f : Nat → Int32} {k k' x : Int32} {m : Int} (h : mkN k.toInt m f) (e : x = f k.toNatClampNeg) (hk : 0 ≤ k.toInt) (hk' : k'.toInt = k.toInt + 1) (hx : ¬ x.toInt = 65533) : mkN k'.toInt m f := by
  have a := v_clamp hk
  refine ⟨fun hm j hj => ?_, fun hm i j hij hj hi => ?_⟩
  · by_cases z : j = k.toNatClampNeg
    · rw [z, ← e]; exact hx
    · exact h.1 hm j (by omega)
  · by_cases z : j = k.toNatClampNeg
    · rw [z, ← e]; exact hx
    · exact h.2 hm i j hij (by omega) hi
theorem mkN_yes {f : Nat → Int32} {k k' x : Int32} {m : Int} (h : mkN k.toInt m f) (e : x = f k.toNatClampNeg) (hk : 0 ≤ k.toInt) (hk' : k'.toInt = k.toInt + 1) (hm0 : 0 ≤ m) : mkN k'.toInt (m + 1) f := by
  have a := v_clamp hk
  refine ⟨fun hm => by omega, fun hm i j hij hj hi => ?_⟩
  exact absurd hi (h.1 (by omega) i (by omega))
/-- one mark was met among the first n, or none is told to have been -/
def mkF (n : Int) (first : Int32) (f : Nat → Int32) : Prop := first.toInt = 1 ∨ ∃ i : Nat, (i : Int) < n ∧ (f i).toInt = 65533
theorem mkF_yes {f : Nat → Int32} {k k' x fi : Int32} (e : x = f k.toNatClampNeg) (hk : 0 ≤ k.toInt) (hk' : k'.toInt = k.toInt + 1) (hx : x.toInt = 65533) : mkF k'.toInt fi f := by
  have a := v_clamp hk
  exact Or.inr ⟨k.toNatClampNeg, by omega, by rw [← e]; exact hx⟩
theorem mkF_no {f : Nat → Int32} {k k' fi : Int32} (h : mkF k.toInt fi f) (hk' : k'.toInt = k.toInt + 1) : mkF k'.toInt fi f := by
  rcases h with h | ⟨i, h1, h2⟩
  · exact Or.inl h
  · exact Or.inr ⟨i, by omega, h2⟩
theorem mkF_two {f : Nat → Int32} {n : Int} {k x fi tw : Int32} (h : mkF k.toInt fi f) (ht : 0 ≤ tw.toInt ∨ mk1 n f) (e : x = f k.toNatClampNeg) (hk : 0 ≤ k.toInt) (hkn : k.toInt < n) (hx : x.toInt = 65533) (hf : ¬ fi.toInt = 1) : 0 ≤ tw.toInt := by
  have a := v_clamp hk
  rcases ht with ht | ht
  · exact ht
  · rcases h with h | ⟨i, h1, h2⟩
    · exact absurd h hf
    · exact absurd (by rw [← e]; exact hx) (ht i k.toNatClampNeg (by omega) (by omega) h2)
/-- the end and the harm kept for a place are good ones -/
def gE (n hm : Int) (f3 f4 : Nat → Int32) (j : Nat) : Prop := (j : Int) < (f3 j).toInt ∧ (f3 j).toInt ≤ n ∧ -1 ≤ (f4 j).toInt ∧ (f4 j).toInt < hm
def pE (i n hm : Int) (f3 f4 : Nat → Int32) : Prop := ∀ j : Nat, i < (j : Int) → (j : Int) < n → gE n hm f3 f4 j
theorem gE_set {n hm : Int} {f3 f4 g3 g4 : Nat → Int32} {i j h : Int32} (e3 : g3 = upd f3 i.toNatClampNeg j) (e4 : g4 = upd f4 i.toNatClampNeg h) (hi : 0 ≤ i.toInt) (h1 : i.toInt < j.toInt) (h2 : j.toInt ≤ n) (h3 : -1 ≤ h.toInt) (h4 : h.toInt < hm) : gE n hm g3 g4 i.toNatClampNeg := by
  have a := v_clamp hi
  unfold gE
  rw [e3, e4, pk_us, pk_us]
  exact ⟨by omega, h2, h3, h4⟩
theorem pE_set {n hm : Int} {f3 f4 g3 g4 : Nat → Int32} {i j h : Int32} (hp : pE i.toInt n hm f3 f4) (e3 : g3 = upd f3 i.toNatClampNeg j) (e4 : g4 = upd f4 i.toNatClampNeg h) (hi : 0 ≤ i.toInt) : pE i.toInt n hm g3 g4 := by
  have a := v_clamp hi
  intro q h1 h2
  have z : q ≠ i.toNatClampNeg := by omega
  have := hp q h1 h2
  unfold gE at this ⊢
  rw [e3, e4, pk_un z, pk_un z]
  exact this
theorem pE_down {n hm : Int} {f3 f4 : Nat → Int32} {i i' : Int32} (hp : pE i.toInt n hm f3 f4) (hg : gE n hm f3 f4 i.toNatClampNeg) (hi : 0 ≤ i.toInt) (hi' : i'.toInt = i.toInt - 1) : pE i'.toInt n hm f3 f4 := by
  have a := v_clamp hi
  intro q h1 h2
  by_cases z : q = i.toNatClampNeg
  · rw [z]; exact hg
  · exact hp q (by omega) h2
theorem pE_at {n hm : Int} {f3 f4 : Nat → Int32} {i x y : Int32} {q : Int} (hp : pE q n hm f3 f4) (hq : q < i.toInt) (hi : 0 ≤ i.toInt) (hn : i.toInt < n) (ex : x = f3 i.toNatClampNeg) (ey : y = f4 i.toNatClampNeg) : i.toInt < x.toInt ∧ x.toInt ≤ n ∧ -1 ≤ y.toInt ∧ y.toInt < hm := by
  have a := v_clamp hi
  have h := hp i.toNatClampNeg (by omega) (by omega)
  unfold gE at h
  rw [← ex, ← ey] at h
  omega
/-- letters told in a row by a step -/
theorem sp_step {le sp k k' y x : Int32} (h : ∀ q : Int32, 0 ≤ q.toInt → q.toInt < k.toInt → 0 ≤ (le + q * sp).toInt ∧ (le + q * sp).toInt ≤ 65535) (ey : y = k * sp) (ex : x = le + y) (hk' : k'.toInt = k.toInt + 1) (hx : 0 ≤ x.toInt ∧ x.toInt ≤ 65535) : ∀ q : Int32, 0 ≤ q.toInt → q.toInt < k'.toInt → 0 ≤ (le + q * sp).toInt ∧ (le + q * sp).toInt ≤ 65535 := by
  intro q h1 h2
  by_cases z : q.toInt = k.toInt
  · rw [v_inj z, ← ey, ← ex]; exact hx
  · exact h q h1 (by omega)
theorem sp_at {le sp k y x : Int32} {n : Int} (h : ∀ q : Int32, 0 ≤ q.toInt → q.toInt < n → 0 ≤ (le + q * sp).toInt ∧ (le + q * sp).toInt ≤ 65535) (ey : y = k * sp) (ex : x = le + y) (h1 : 0 ≤ k.toInt) (h2 : k.toInt < n) : 0 ≤ x.toInt ∧ x.toInt ≤ 65535 := by
  rw [ex, ey]; exact h k h1 h2
theorem sp_ix {le sp k y x z a : Int32} {n : Int} (h : ∀ q : Int32, 0 ≤ q.toInt → q.toInt < n → 0 ≤ (le + q * sp).toInt ∧ (le + q * sp).toInt ≤ 65535) (ey : y = k * sp) (ea : a = z + le) (ex : x = a + y) (h1 : 0 ≤ k.toInt) (h2 : k.toInt < n) (hz : 0 ≤ z.toInt ∧ z.toInt ≤ 65536) : z.toInt ≤ x.toInt ∧ x.toInt ≤ z.toInt + 65535 := by
  have e : x = z + (le + k * sp) := by rw [ex, ea, ey, Int32.add_assoc]
  have hh := h k h1 h2
  rw [v_add e (by omega) (by omega)]
  omega
/-- kept choices: the first is a byte, the second a byte or none by the number of marks -/
def gH (mk : Int) (f : Nat → Int32) (i : Nat) : Prop := (0 ≤ (f (4 * i)).toInt ∧ (f (4 * i)).toInt ≤ 255) ∧ ((mk = 1 ∧ (f (4 * i + 1)).toInt = -1) ∨ (mk = 2 ∧ 0 ≤ (f (4 * i + 1)).toInt ∧ (f (4 * i + 1)).toInt ≤ 255))
def pH (c mk : Int) (f : Nat → Int32) : Prop := ∀ i : Nat, (i : Int) < c → i < 200 → gH mk f i
/-- all but the one at k -/
def pHx (c k mk : Int) (f : Nat → Int32) : Prop := ∀ i : Nat, (i : Int) < c → i < 200 → ¬ (i : Int) = k → gH mk f i
def cp4 (k i : Int) (f : Nat → Int32) : Prop := ∀ q : Nat, (q : Int) < i → f (4 * k.toNat + q) = f (4 * k.toNat - 4 + q)
theorem pHx_of {c c2 k mk : Int} {f : Nat → Int32} (h : pH c mk f) (hc : c2 ≤ c + 1) (hk : k = c2 - 1 ∨ 199 ≤ c) (hk2 : 200 ≤ c2 → k = 199) : pHx c2 k mk f := by
  intro i h1 h2 h3
  exact h i (by omega) h2
theorem pHx_store {c k i mk : Int} {f g : Nat → Int32} {x v : Int32} (h : pHx c k mk f) (e : g = upd f x.toNatClampNeg v) (hx : x.toInt = 4 * k + i) (hk : 0 ≤ k) (hi : 0 ≤ i) (hi4 : i < 4) : pHx c k mk g := by
  have a := v_clamp (x := x) (by omega)
  intro j h1 h2 h3
  have hh := h j h1 h2 h3
  unfold gH at hh ⊢
  rw [e, pk_un (by omega), pk_un (by omega)]
  exact hh
theorem cp4_0 {k i : Int} {f : Nat → Int32} (h : i ≤ 0) : cp4 k i f := fun q hq => by omega
theorem cp4_step {k i i' : Int} {f g : Nat → Int32} {x y z : Int32} (h : cp4 k i f) (e : g = upd f x.toNatClampNeg y) (ey : y = f z.toNatClampNeg) (hx : x.toInt = 4 * k + i) (hz : z.toInt = 4 * k - 4 + i) (hk : 1 ≤ k) (hi : 0 ≤ i) (hi4 : i < 4) (hi' : i' = i + 1) : cp4 k i' g := by
  have a := v_clamp (x := x) (by omega)
  have b := v_clamp (x := z) (by omega)
  intro q hq
  have e2 : g (4 * k.toNat - 4 + q) = f (4 * k.toNat - 4 + q) := by rw [e, pk_un (by omega)]
  rw [e2]
  by_cases w : (q : Int) = i
  · have e3 : 4 * k.toNat + q = x.toNatClampNeg := by omega
    have e4 : 4 * k.toNat - 4 + q = z.toNatClampNeg := by omega
    rw [e3, e4, e, pk_us, ← ey]
  · rw [e, pk_un (by omega)]
    exact h q (by omega)
theorem pHx_down {c k k' mk : Int} {f : Nat → Int32} (h : pHx c k mk f) (hc : cp4 k 4 f) (hk : 1 ≤ k) (hkc : k < c) (hk2 : k < 200) (hk' : k' = k - 1) : pHx c k' mk f := by
  intro i h1 h2 h3
  by_cases z : (i : Int) = k
  · have e1 := h (i - 1) (by omega) (by omega) (by omega)
    have c0 := hc 0 (by omega)
    have c1 := hc 1 (by omega)
    have n1 : 4 * k.toNat + 0 = 4 * i := by omega
    have n2 : 4 * k.toNat - 4 + 0 = 4 * (i - 1) := by omega
    have n3 : 4 * k.toNat + 1 = 4 * i + 1 := by omega
    have n4 : 4 * k.toNat - 4 + 1 = 4 * (i - 1) + 1 := by omega
    rw [n1, n2] at c0
    rw [n3, n4] at c1
    unfold gH at e1 ⊢
    rw [c0, c1]
    exact e1
  · exact h i h1 h2 z
theorem pH_set {c k mk : Int} {f g0 g1 g2 g3 : Nat → Int32} {x0 x1 x2 x3 v0 v1 v2 v3 : Int32} (h : pHx c k mk f) (e0 : g0 = upd f x0.toNatClampNeg v0) (e1 : g1 = upd g0 x1.toNatClampNeg v1) (e2 : g2 = upd g1 x2.toNatClampNeg v2) (e3 : g3 = upd g2 x3.toNatClampNeg v3)
    (h0 : x0.toInt = 4 * k) (h1 : x1.toInt = 4 * k + 1) (h2 : x2.toInt = 4 * k + 2) (h3 : x3.toInt = 4 * k + 3) (hk : 0 ≤ k) (hv0 : 0 ≤ v0.toInt ∧ v0.toInt ≤ 255) (hv1 : (mk = 1 ∧ v1.toInt = -1) ∨ (mk = 2 ∧ 0 ≤ v1.toInt ∧ v1.toInt ≤ 255)) : pH c mk g3 := by
  have a0 := v_clamp (x := x0) (by omega)
  have a1 := v_clamp (x := x1) (by omega)
  have a2 := v_clamp (x := x2) (by omega)
  have a3 := v_clamp (x := x3) (by omega)
  intro i hi hi2
  by_cases z : (i : Int) = k
  · unfold gH
    have p0 : g3 (4 * i) = v0 := by
      rw [e3, pk_un (by omega), e2, pk_un (by omega), e1, pk_un (by omega), e0]
      have : 4 * i = x0.toNatClampNeg := by omega
      rw [this, pk_us]
    have p1 : g3 (4 * i + 1) = v1 := by
      rw [e3, pk_un (by omega), e2, pk_un (by omega), e1]
      have : 4 * i + 1 = x1.toNatClampNeg := by omega
      rw [this, pk_us]
    rw [p0, p1]
    exact ⟨hv0, hv1⟩
  · have q0 := pHx_store (i := 0) h e0 (by omega) hk (by omega) (by omega)
    have q1 := pHx_store (i := 1) q0 e1 (by omega) hk (by omega) (by omega)
    have q2 := pHx_store (i := 2) q1 e2 (by omega) hk (by omega) (by omega)
    have q3 := pHx_store (i := 3) q2 e3 (by omega) hk (by omega) (by omega)
    exact q3 i hi hi2 z
/-- what the choices kept are, as long as the state is the one that they were made in -/
def GCh (zq zs zy : Int32) (f eX eS : Nat → Int32) : Prop := zq.toInt = zs.toInt → ∃ mk : Int, pH zy.toInt mk f ∧ (mk = 1 → mk1 (eS 0).toInt eX)
def F_st (zs zs' : Int32) (eX eX' eS eS' : Nat → Int32) : Prop := zs'.toInt = zs.toInt + 1 ∨ (zs' = zs ∧ eX' = eX ∧ eS' = eS)
theorem GCh_at {zq zs zy i : Int32} {f eX eS : Nat → Int32} (h : GCh zq zs zy f eX eS) (hs : zq.toInt = zs.toInt) (h0 : 0 ≤ i.toInt) (h1 : i.toInt < zy.toInt) (h2 : i.toInt < 200) {x y : Int32} {j k : Int32} (hj : j.toInt = 4 * i.toInt) (hk : k.toInt = 4 * i.toInt + 1) (ex : x = f j.toNatClampNeg) (ey : y = f k.toNatClampNeg) : (0 ≤ x.toInt ∧ x.toInt ≤ 255) ∧ (-1 ≤ y.toInt ∧ y.toInt ≤ 255) ∧ (0 ≤ y.toInt ∨ mk1 (eS 0).toInt eX) := by
  obtain ⟨mk, hp, hm⟩ := h hs
  have a := v_clamp h0
  have b := v_clamp (x := j) (by omega)
  have c := v_clamp (x := k) (by omega)
  have g := hp i.toNatClampNeg (by omega) (by omega)
  unfold gH at g
  have e1 : 4 * i.toNatClampNeg = j.toNatClampNeg := by omega
  have e2 : 4 * i.toNatClampNeg + 1 = k.toNatClampNeg := by omega
  rw [e2, e1, ← ex, ← ey] at g
  rcases g.2 with ⟨g1, g2⟩ | ⟨g1, g2⟩
  · exact ⟨g.1, by omega, Or.inr (hm g1)⟩
  · exact ⟨g.1, by omega, Or.inl g2.1⟩

set_option maxHeartbeats 40000000 in
set_option maxRecDepth 100000 in
theorem m_X12_isCode (l : Launch) (dC : Nat → ClassId) (dI : Nat → Nat → Nat) (cI cS : ClassId) (sz : Nat) (cd : Int32)  : kMi l yX12_isCode wsX12_isCode ({ frames := 0, cells := 0, slots := 0, locals := 0 } : Room) [.int cd] sz (dC, dI) vwCl [(cI, .int), (cS, .short)] [] (fun _ => True) 0 0 (fun (A : Nat → Prop) (r : Int32) (hh9 : Heap) => kPD (dC, dI) vwCl A [] hh9 ∧ (0 ≤ r.toInt ∧ r.toInt ≤ 1) ∧ ((r.toInt = 1 ∧ 0 ≤ cd.toInt ∧ cd.toInt ≤ 5) ∨ (r.toInt = 0 ∧ (cd.toInt < 0 ∨ 5 < cd.toInt)))) := by
  refine kMi_of (cc := cX12_isCode) (maxL := 1) (ret := (some .boolean)) (lv := [(0, .int cd)]) (by decide +kernel) rfl rfl (Nat.le_of_ble_eq_true rfl) ?_
  intro p e s m below meth c A QQ ls hx hb hr hts hml hown hlocks hA hQQ hK hX hP hD hS hl
  have hown : s.vm.findClass RX12 = some m.cls := hown
  have hcf := k_cf hx hb hml hown hts
  refine lv_iload_n hx hb dX12_isCode_0 rfl (lv_at hl 0 rfl) ?_
  refine lv_if_lt (tgt := 14) hx hb dX12_isCode_1 (by decide) (fun c_1 => ?_) (fun c_1 => ?_)
  · have tc_1 : cd.toInt < 0 := v_lt c_1
    refine lv_iconst (v := 0) hx hb dX12_isCode_14 (by decide) ?_
    exact kl_z (v := 0) hQQ hx hb hr hlocks hS dX12_isCode_15 (rfl) ⟨⟨hP, hD⟩, by decide, by show (0 = 1 ∧ 0 ≤ cd.toInt ∧ cd.toInt ≤ 5) ∨ (0 = 0 ∧ (cd.toInt < 0 ∨ 5 < cd.toInt)); omega⟩
  · have tc_1 : 0 ≤ cd.toInt := v_nlt c_1
    refine lv_iload_n hx hb dX12_isCode_4 rfl (lv_at hl 0 rfl) ?_
    refine lv_bipush (v := 6) hx hb dX12_isCode_5 (by decide) ?_
    refine lv_icmp_ge (tgt := 14) hx hb dX12_isCode_7 (by decide) (fun c_2 => ?_) (fun c_2 => ?_)
    · have tc_2 : 6 ≤ cd.toInt := v_le c_2
      refine lv_iconst (v := 0) hx hb dX12_isCode_14 (by decide) ?_
      exact kl_z (v := 0) hQQ hx hb hr hlocks hS dX12_isCode_15 (rfl) ⟨⟨hP, hD⟩, by decide, by show (0 = 1 ∧ 0 ≤ cd.toInt ∧ cd.toInt ≤ 5) ∨ (0 = 0 ∧ (cd.toInt < 0 ∨ 5 < cd.toInt)); omega⟩
    · have tc_2 : cd.toInt < 6 := v_nle c_2
      refine lv_iconst (v := 1) hx hb dX12_isCode_10 (by decide) ?_
      refine lv_goto (tgt := 15) hx hb dX12_isCode_11 (by decide) ?_
      exact kl_z (v := 1) hQQ hx hb hr hlocks hS dX12_isCode_15 (rfl) ⟨⟨hP, hD⟩, by decide, by show (1 = 1 ∧ 0 ≤ cd.toInt ∧ cd.toInt ≤ 5) ∨ (1 = 0 ∧ (cd.toInt < 0 ∨ 5 < cd.toInt)); omega⟩

set_option maxHeartbeats 40000000 in
set_option maxRecDepth 100000 in
theorem m_X12_isLetter (l : Launch) (dC : Nat → ClassId) (dI : Nat → Nat → Nat) (cI cS : ClassId) (sz : Nat) (x : Int32)  : kMi l yX12_isLetter wsX12_isLetter ({ frames := 0, cells := 0, slots := 0, locals := 0 } : Room) [.int x] sz (dC, dI) vwCl [(cI, .int), (cS, .short)] [] (fun _ => True) 0 0 (fun (A : Nat → Prop) (r : Int32) (hh9 : Heap) => kPD (dC, dI) vwCl A [] hh9 ∧ (0 ≤ r.toInt ∧ r.toInt ≤ 1) ∧ ((r.toInt = 1 ∧ 0 ≤ x.toInt ∧ x.toInt ≤ 65535 ∧ (x.toInt < 55296 ∨ 57343 < x.toInt)) ∨ (r.toInt = 0 ∧ (x.toInt < 0 ∨ 65535 < x.toInt ∨ (55296 ≤ x.toInt ∧ x.toInt ≤ 57343))))) := by
  refine kMi_of (cc := cX12_isLetter) (maxL := 1) (ret := (some .boolean)) (lv := [(0, .int x)]) (by decide +kernel) rfl rfl (Nat.le_of_ble_eq_true rfl) ?_
  intro p e s m below meth c A QQ ls hx hb hr hts hml hown hlocks hA hQQ hK hX hP hD hS hl
  have hown : s.vm.findClass RX12 = some m.cls := hown
  have hcf := k_cf hx hb hml hown hts
  refine lv_iload_n hx hb dX12_isLetter_0 rfl (lv_at hl 0 rfl) ?_
  refine lv_if_lt (tgt := 26) hx hb dX12_isLetter_1 (by decide) (fun c_1 => ?_) (fun c_1 => ?_)
  · have tc_1 : x.toInt < 0 := v_lt c_1
    refine lv_iconst (v := 0) hx hb dX12_isLetter_26 (by decide) ?_
    exact kl_z (v := 0) hQQ hx hb hr hlocks hS dX12_isLetter_27 (rfl) ⟨⟨hP, hD⟩, by decide, by show (0 = 1 ∧ 0 ≤ x.toInt ∧ x.toInt ≤ 65535 ∧ (x.toInt < 55296 ∨ 57343 < x.toInt)) ∨ (0 = 0 ∧ (x.toInt < 0 ∨ 65535 < x.toInt ∨ (55296 ≤ x.toInt ∧ x.toInt ≤ 57343))); omega⟩
  · have tc_1 : 0 ≤ x.toInt := v_nlt c_1
    refine lv_iload_n hx hb dX12_isLetter_4 rfl (lv_at hl 0 rfl) ?_
    refine lv_ldc hx hb hown (hts (.constant RX12 88 (65536)) (List.mem_of_getElem? (i := 1) rfl)) dX12_isLetter_5 ?_
    refine lv_icmp_ge (tgt := 26) hx hb dX12_isLetter_7 (by decide) (fun c_2 => ?_) (fun c_2 => ?_)
    · have tc_2 : 65536 ≤ x.toInt := v_le c_2
      refine lv_iconst (v := 0) hx hb dX12_isLetter_26 (by decide) ?_
      exact kl_z (v := 0) hQQ hx hb hr hlocks hS dX12_isLetter_27 (rfl) ⟨⟨hP, hD⟩, by decide, by show (0 = 1 ∧ 0 ≤ x.toInt ∧ x.toInt ≤ 65535 ∧ (x.toInt < 55296 ∨ 57343 < x.toInt)) ∨ (0 = 0 ∧ (x.toInt < 0 ∨ 65535 < x.toInt ∨ (55296 ≤ x.toInt ∧ x.toInt ≤ 57343))); omega⟩
    · have tc_2 : x.toInt < 65536 := v_nle c_2
      refine lv_iload_n hx hb dX12_isLetter_10 rfl (lv_at hl 0 rfl) ?_
      refine lv_ldc hx hb hown (hts (.constant RX12 89 (55296)) (List.mem_of_getElem? (i := 2) rfl)) dX12_isLetter_11 ?_
      refine lv_icmp_lt (tgt := 22) hx hb dX12_isLetter_13 (by decide) (fun c_3 => ?_) (fun c_3 => ?_)
      · have tc_3 : x.toInt < 55296 := v_lt c_3
        refine lv_iconst (v := 1) hx hb dX12_isLetter_22 (by decide) ?_
        refine lv_goto (tgt := 27) hx hb dX12_isLetter_23 (by decide) ?_
        exact kl_z (v := 1) hQQ hx hb hr hlocks hS dX12_isLetter_27 (rfl) ⟨⟨hP, hD⟩, by decide, by show (1 = 1 ∧ 0 ≤ x.toInt ∧ x.toInt ≤ 65535 ∧ (x.toInt < 55296 ∨ 57343 < x.toInt)) ∨ (1 = 0 ∧ (x.toInt < 0 ∨ 65535 < x.toInt ∨ (55296 ≤ x.toInt ∧ x.toInt ≤ 57343))); omega⟩
      · have tc_3 : 55296 ≤ x.toInt := v_nlt c_3
        refine lv_iload_n hx hb dX12_isLetter_16 rfl (lv_at hl 0 rfl) ?_
        refine lv_ldc hx hb hown (hts (.constant RX12 90 (57343)) (List.mem_of_getElem? (i := 3) rfl)) dX12_isLetter_17 ?_
        refine lv_icmp_le (tgt := 26) hx hb dX12_isLetter_19 (by decide) (fun c_4 => ?_) (fun c_4 => ?_)
        · have tc_4 : x.toInt ≤ 57343 := v_le c_4
          refine lv_iconst (v := 0) hx hb dX12_isLetter_26 (by decide) ?_
          exact kl_z (v := 0) hQQ hx hb hr hlocks hS dX12_isLetter_27 (rfl) ⟨⟨hP, hD⟩, by decide, by show (0 = 1 ∧ 0 ≤ x.toInt ∧ x.toInt ≤ 65535 ∧ (x.toInt < 55296 ∨ 57343 < x.toInt)) ∨ (0 = 0 ∧ (x.toInt < 0 ∨ 65535 < x.toInt ∨ (55296 ≤ x.toInt ∧ x.toInt ≤ 57343))); omega⟩
        · have tc_4 : 57343 < x.toInt := v_nle c_4
          refine lv_iconst (v := 1) hx hb dX12_isLetter_22 (by decide) ?_
          refine lv_goto (tgt := 27) hx hb dX12_isLetter_23 (by decide) ?_
          exact kl_z (v := 1) hQQ hx hb hr hlocks hS dX12_isLetter_27 (rfl) ⟨⟨hP, hD⟩, by decide, by show (1 = 1 ∧ 0 ≤ x.toInt ∧ x.toInt ≤ 65535 ∧ (x.toInt < 55296 ∨ 57343 < x.toInt)) ∨ (1 = 0 ∧ (x.toInt < 0 ∨ 65535 < x.toInt ∨ (55296 ≤ x.toInt ∧ x.toInt ≤ 57343))); omega⟩

set_option maxHeartbeats 40000000 in
set_option maxRecDepth 100000 in
theorem m_X12_goesOn (l : Launch) (dC : Nat → ClassId) (dI : Nat → Nat → Nat) (cI cS : ClassId) (sz : Nat) (v : Int32)  : kMi l yX12_goesOn wsX12_goesOn ({ frames := 0, cells := 0, slots := 0, locals := 0 } : Room) [.int v] sz (dC, dI) vwCl [(cI, .int), (cS, .short)] [] (fun _ => True) 0 0 (fun (A : Nat → Prop) (r : Int32) (hh9 : Heap) => kPD (dC, dI) vwCl A [] hh9 ∧ (0 ≤ r.toInt ∧ r.toInt ≤ 1) ∧ ((r.toInt = 1 ∧ 128 ≤ v.toInt ∧ v.toInt ≤ 191) ∨ (r.toInt = 0 ∧ (v.toInt < 128 ∨ 191 < v.toInt)))) := by
  refine kMi_of (cc := cX12_goesOn) (maxL := 1) (ret := (some .boolean)) (lv := [(0, .int v)]) (by decide +kernel) rfl rfl (Nat.le_of_ble_eq_true rfl) ?_
  intro p e s m below meth c A QQ ls hx hb hr hts hml hown hlocks hA hQQ hK hX hP hD hS hl
  have hown : s.vm.findClass RX12 = some m.cls := hown
  have hcf := k_cf hx hb hml hown hts
  refine lv_iload_n hx hb dX12_goesOn_0 rfl (lv_at hl 0 rfl) ?_
  refine lv_sipush (v := 128) hx hb dX12_goesOn_1 (by decide) ?_
  refine lv_icmp_lt (tgt := 18) hx hb dX12_goesOn_4 (by decide) (fun c_1 => ?_) (fun c_1 => ?_)
  · have tc_1 : v.toInt < 128 := v_lt c_1
    refine lv_iconst (v := 0) hx hb dX12_goesOn_18 (by decide) ?_
    exact kl_z (v := 0) hQQ hx hb hr hlocks hS dX12_goesOn_19 (rfl) ⟨⟨hP, hD⟩, by decide, by show (0 = 1 ∧ 128 ≤ v.toInt ∧ v.toInt ≤ 191) ∨ (0 = 0 ∧ (v.toInt < 128 ∨ 191 < v.toInt)); omega⟩
  · have tc_1 : 128 ≤ v.toInt := v_nlt c_1
    refine lv_iload_n hx hb dX12_goesOn_7 rfl (lv_at hl 0 rfl) ?_
    refine lv_sipush (v := 192) hx hb dX12_goesOn_8 (by decide) ?_
    refine lv_icmp_ge (tgt := 18) hx hb dX12_goesOn_11 (by decide) (fun c_2 => ?_) (fun c_2 => ?_)
    · have tc_2 : 192 ≤ v.toInt := v_le c_2
      refine lv_iconst (v := 0) hx hb dX12_goesOn_18 (by decide) ?_
      exact kl_z (v := 0) hQQ hx hb hr hlocks hS dX12_goesOn_19 (rfl) ⟨⟨hP, hD⟩, by decide, by show (0 = 1 ∧ 128 ≤ v.toInt ∧ v.toInt ≤ 191) ∨ (0 = 0 ∧ (v.toInt < 128 ∨ 191 < v.toInt)); omega⟩
    · have tc_2 : v.toInt < 192 := v_nle c_2
      refine lv_iconst (v := 1) hx hb dX12_goesOn_14 (by decide) ?_
      refine lv_goto (tgt := 19) hx hb dX12_goesOn_15 (by decide) ?_
      exact kl_z (v := 1) hQQ hx hb hr hlocks hS dX12_goesOn_19 (rfl) ⟨⟨hP, hD⟩, by decide, by show (1 = 1 ∧ 128 ≤ v.toInt ∧ v.toInt ≤ 191) ∨ (1 = 0 ∧ (v.toInt < 128 ∨ 191 < v.toInt)); omega⟩

set_option maxHeartbeats 40000000 in
set_option maxRecDepth 100000 in
theorem m_X12_put (l : Launch) (dC : Nat → ClassId) (dI : Nat → Nat → Nat) (cI cS : ClassId) (sz : Nat) (oM : Nat) (mT : Nat) (mS : Nat) (mX : Nat) (mL : Nat) (mB : Nat) (mD : Nat) (m1 : Nat) (m2 : Nat) (mR : Nat) (x1 : Nat) (x2 : Nat) (x3 : Nat) (mH : Nat) (mY : Nat) (mE : Nat) (mW : Nat) (mO : Nat) (y1 : Nat) (y2 : Nat) (y3 : Nat) (y4 : Nat) (mZ : Nat) (zt : Int32) (zp : Int32) (zf : Int32) (zh : Int32) (zr : Int32) (zc : Int32) (zy : Int32) (za : Int32) (zb : Int32) (zs : Int32) (zq : Int32) (zw : Int32) (ze : Int32) (zn : Int32) (zm : Int32) (zl : Int32) (zk : Int32) (zd : Int32) (eY : Nat → Int32) (v : Int32) (g_zt : 0 ≤ zt.toInt ∧ zt.toInt ≤ 900) (g_zp : 0 ≤ zp.toInt ∧ zp.toInt ≤ 20) (g_zf : 0 ≤ zf.toInt ∧ zf.toInt ≤ 19) (g_zh : 0 ≤ zh.toInt ∧ zh.toInt ≤ 6) (g_zr : 0 ≤ zr.toInt ∧ zr.toInt ≤ 258) (g_zc : 0 ≤ zc.toInt ∧ zc.toInt ≤ 300) (g_zy : 0 ≤ zy.toInt ∧ zy.toInt ≤ 65536) (g_za : 0 ≤ za.toInt ∧ za.toInt ≤ 5) (g_zb : 0 ≤ zb.toInt ∧ zb.toInt ≤ 5) (g_zs : 0 ≤ zs.toInt ∧ zs.toInt ≤ 2000000) (g_zq : -1 ≤ zq.toInt ∧ zq.toInt ≤ 2000000) (g_zn : 0 ≤ zn.toInt ∧ zn.toInt ≤ 2600) (g_zm : 0 ≤ zm.toInt ∧ zm.toInt ≤ 2600) (g_zk : 0 ≤ zk.toInt ∧ zk.toInt ≤ 300) (g_eY : rg 0 255 eY) (g_v : 0 ≤ v.toInt ∧ v.toInt ≤ 255) (hzn : zn.toInt ≤ 2599) : kMv l yX12_put wsX12_put ({ frames := 0, cells := 0, slots := 0, locals := 0 } : Room) [.ref oM, .int v] sz (dC, dI) vwCl [(cI, .int), (cS, .short)] [(oM, .inr (12, [.ref mT, .int zt, .ref mS, .ref mX, .int zp, .int zf, .ref mL, .ref mB, .ref mD, .ref m1, .ref m2, .int zh, .ref mR, .int zr, .ref x1, .ref x2, .ref x3, .int zc, .ref mH, .int zy, .int za, .int zb, .int zs, .int zq, .int zw, .int ze, .ref mY, .int zn, .ref mE, .int zm, .int zl, .ref mW, .int zk, .ref mO, .int zd, .ref y1, .ref y2, .ref y3, .ref y4, .ref mZ])), (mY, .inl (cI, 2600, .inl eY))] (fun _ => True) 0 0 (fun (A : Nat → Prop) (hh9 : Heap) => ∃ (zn' : Int32) (eY' : Nat → Int32), kPD (dC, dI) vwCl A [(oM, .inr (12, [.ref mT, .int zt, .ref mS, .ref mX, .int zp, .int zf, .ref mL, .ref mB, .ref mD, .ref m1, .ref m2, .int zh, .ref mR, .int zr, .ref x1, .ref x2, .ref x3, .int zc, .ref mH, .int zy, .int za, .int zb, .int zs, .int zq, .int zw, .int ze, .ref mY, .int zn', .ref mE, .int zm, .int zl, .ref mW, .int zk, .ref mO, .int zd, .ref y1, .ref y2, .ref y3, .ref y4, .ref mZ])), (mY, .inl (cI, 2600, .inl eY'))] hh9 ∧ (0 ≤ zn'.toInt ∧ zn'.toInt ≤ 2600) ∧ (rg 0 255 eY') ∧ (zn'.toInt = zn.toInt + 1)) := by
  refine kMv_of (cc := cX12_put) (maxL := 2) (ret := none) (lv := [(0, .ref oM), (1, .int v)]) (by decide +kernel) rfl rfl (Nat.le_of_ble_eq_true rfl) ?_
  intro p e s m below meth c A QQ ls hx hb hr hts hml hown hlocks hA hQQ hK hX hP hD hS hl
  have hown : s.vm.findClass RX12 = some m.cls := hown
  have hcf := k_cf hx hb hml hown hts
  have in_X12 : ∀ w ∈ wsX120, w ∈ wsX12_put := fun _ h => List.mem_cons_of_mem _ (List.mem_append_right _ (h))
  refine lv_aload_n hx hb dX12_put_0 rfl (lv_at hl 0 rfl) ?_
  refine va_get (D := (dC, dI)) (ci := 12) (v := .ref mY) (C := RX12) (T := TX12) (N := 40) hx hb hts in_X12 hown hK hP 0 rfl rfl 26 (by decide) (hts (.fieldLink RX12 58 "TextMenderModel" "bytes" "[I") (List.mem_of_getElem? (i := 1) rfl)) (fun _ h9 => h9) rfl dX12_put_1 ?_
  refine lv_aload_n hx hb dX12_put_4 rfl (lv_at hl 0 rfl) ?_
  refine va_get (D := (dC, dI)) (ci := 12) (v := .int zn) (C := RX12) (T := TX12) (N := 40) hx hb hts in_X12 hown hK hP 0 rfl rfl 27 (by decide) (hts (.fieldLink RX12 91 "TextMenderModel" "byteMany" "I") (List.mem_of_getElem? (i := 2) rfl)) (fun _ h9 => h9) rfl dX12_put_5 ?_
  refine lv_iload_n hx hb dX12_put_8 rfl (lv_at hl 1 rfl) ?_
  obtain ⟨f_1, ef_1⟩ : ∃ g : Nat → Int32, g = upd eY (zn : Int32).toNatClampNeg v := ⟨_, rfl⟩
  refine va_iast hx hb hK hP hD hS 1 0 rfl rfl (v_in (by omega)) dX12_put_9 (kWf (g := f_1) (F := fun f_1 => [(oM, .inr (12, [.ref mT, .int zt, .ref mS, .ref mX, .int zp, .int zf, .ref mL, .ref mB, .ref mD, .ref m1, .ref m2, .int zh, .ref mR, .int zr, .ref x1, .ref x2, .ref x3, .int zc, .ref mH, .int zy, .int za, .int zb, .int zs, .int zq, .int zw, .int ze, .ref mY, .int zn, .ref mE, .int zm, .int zl, .ref mW, .int zk, .ref mO, .int zd, .ref y1, .ref y2, .ref y3, .ref y4, .ref mZ])), (mY, .inl (cI, 2600, .inl f_1))]) ef_1 rfl (fun H locs hPn hDn hSn => ?_))
  clear hP hD hS
  have hP := hPn
  have hD := hDn
  have hS := hSn
  clear hPn hDn hSn
  have g_f1 : rg 0 255 f_1 := rg_upd ef_1 g_eY (by omega)
  refine lv_aload_n hx hb dX12_put_10 rfl (lv_at hl 0 rfl) ?_
  refine lv_dup hx hb dX12_put_11 rfl ?_
  refine va_get (D := (dC, dI)) (ci := 12) (v := .int zn) (C := RX12) (T := TX12) (N := 40) hx hb hts in_X12 hown hK hP 0 rfl rfl 27 (by decide) (hts (.fieldLink RX12 91 "TextMenderModel" "byteMany" "I") (List.mem_of_getElem? (i := 2) rfl)) (fun _ h9 => h9) rfl dX12_put_12 ?_
  refine lv_iconst (v := 1) hx hb dX12_put_15 (by decide) ?_
  refine lv_iadd hx hb dX12_put_16 ?_
  refine lv_topi (fun x_2 ex_2 => ?_)
  have tx_2 : x_2.toInt = zn.toInt + 1 := v_addR (l2 := 1) (h2 := 1) ex_2 g_zn (by decide) (by decide) (by decide)
  refine va_put (D := (dC, dI)) (ci := 12) (v := .int x_2) (ty := .int) (C := RX12) (T := TX12) (N := 40) hx hb hts in_X12 tyX12 tyX12_ok nmX12 hown hK hP hD hS 0 rfl rfl 27 (by decide) (hts (.fieldLink RX12 91 "TextMenderModel" "byteMany" "I") (List.mem_of_getElem? (i := 2) rfl)) (fun _ h9 => h9) rfl (by decide +kernel) rfl rfl (Nat.le_of_ble_eq_true rfl) dX12_put_17 (kW (wn := [(oM, .inr (12, [.ref mT, .int zt, .ref mS, .ref mX, .int zp, .int zf, .ref mL, .ref mB, .ref mD, .ref m1, .ref m2, .int zh, .ref mR, .int zr, .ref x1, .ref x2, .ref x3, .int zc, .ref mH, .int zy, .int za, .int zb, .int zs, .int zq, .int zw, .int ze, .ref mY, .int x_2, .ref mE, .int zm, .int zl, .ref mW, .int zk, .ref mO, .int zd, .ref y1, .ref y2, .ref y3, .ref y4, .ref mZ])), (mY, .inl (cI, 2600, .inl f_1))]) rfl (fun H locs hPn hDn hSn => ?_))
  clear hP hD hS
  have hP := hPn
  have hD := hDn
  have hS := hSn
  clear hPn hDn hSn
  exact kl_v hQQ hx hb hr hlocks hS dX12_put_20 ⟨x_2, f_1, ⟨hP, hD⟩, by omega, g_f1, by show x_2.toInt = zn.toInt + 1; omega⟩

set_option maxHeartbeats 40000000 in
set_option maxRecDepth 100000 in
theorem m_X12_writeLetter (l : Launch) (dC : Nat → ClassId) (dI : Nat → Nat → Nat) (cI cS : ClassId) (sz : Nat) (oM : Nat) (mT : Nat) (mS : Nat) (mX : Nat) (mL : Nat) (mB : Nat) (mD : Nat) (m1 : Nat) (m2 : Nat) (mR : Nat) (x1 : Nat) (x2 : Nat) (x3 : Nat) (mH : Nat) (mY : Nat) (mE : Nat) (mW : Nat) (mO : Nat) (y1 : Nat) (y2 : Nat) (y3 : Nat) (y4 : Nat) (mZ : Nat) (zt : Int32) (zp : Int32) (zf : Int32) (zh : Int32) (zr : Int32) (zc : Int32) (zy : Int32) (za : Int32) (zb : Int32) (zs : Int32) (zq : Int32) (zw : Int32) (ze : Int32) (zn : Int32) (zm : Int32) (zl : Int32) (zk : Int32) (zd : Int32) (eY : Nat → Int32) (eB : Nat → Int32) (cd : Int32) (x : Int32) (g_zt : 0 ≤ zt.toInt ∧ zt.toInt ≤ 900) (g_zp : 0 ≤ zp.toInt ∧ zp.toInt ≤ 20) (g_zf : 0 ≤ zf.toInt ∧ zf.toInt ≤ 19) (g_zh : 0 ≤ zh.toInt ∧ zh.toInt ≤ 6) (g_zr : 0 ≤ zr.toInt ∧ zr.toInt ≤ 258) (g_zc : 0 ≤ zc.toInt ∧ zc.toInt ≤ 300) (g_zy : 0 ≤ zy.toInt ∧ zy.toInt ≤ 65536) (g_za : 0 ≤ za.toInt ∧ za.toInt ≤ 5) (g_zb : 0 ≤ zb.toInt ∧ zb.toInt ≤ 5) (g_zs : 0 ≤ zs.toInt ∧ zs.toInt ≤ 2000000) (g_zq : -1 ≤ zq.toInt ∧ zq.toInt ≤ 2000000) (g_zn : 0 ≤ zn.toInt ∧ zn.toInt ≤ 2600) (g_zm : 0 ≤ zm.toInt ∧ zm.toInt ≤ 2600) (g_zk : 0 ≤ zk.toInt ∧ zk.toInt ≤ 300) (g_eY : rg 0 255 eY) (g_eB : rg (-1) 255 eB) (g_cd : 0 ≤ cd.toInt ∧ cd.toInt ≤ 5) (g_x : 0 ≤ x.toInt ∧ x.toInt ≤ 65535) (hzn : zn.toInt ≤ 2592) : kMi l yX12_writeLetter wsX12_writeLetter ({ frames := 1, cells := 0, slots := 0, locals := 21 } : Room) [.ref oM, .int cd, .int x] sz (dC, dI) vwCl [(cI, .int), (cS, .short)] [(oM, .inr (12, [.ref mT, .int zt, .ref mS, .ref mX, .int zp, .int zf, .ref mL, .ref mB, .ref mD, .ref m1, .ref m2, .int zh, .ref mR, .int zr, .ref x1, .ref x2, .ref x3, .int zc, .ref mH, .int zy, .int za, .int zb, .int zs, .int zq, .int zw, .int ze, .ref mY, .int zn, .ref mE, .int zm, .int zl, .ref mW, .int zk, .ref mO, .int zd, .ref y1, .ref y2, .ref y3, .ref y4, .ref mZ])), (mY, .inl (cI, 2600, .inl eY)), (mB, .inl (cS, 131072, .inl eB))] (fun _ => True) 0 0 (fun (A : Nat → Prop) (r : Int32) (hh9 : Heap) => ∃ (zn' : Int32) (eY' : Nat → Int32), kPD (dC, dI) vwCl A [(oM, .inr (12, [.ref mT, .int zt, .ref mS, .ref mX, .int zp, .int zf, .ref mL, .ref mB, .ref mD, .ref m1, .ref m2, .int zh, .ref mR, .int zr, .ref x1, .ref x2, .ref x3, .int zc, .ref mH, .int zy, .int za, .int zb, .int zs, .int zq, .int zw, .int ze, .ref mY, .int zn', .ref mE, .int zm, .int zl, .ref mW, .int zk, .ref mO, .int zd, .ref y1, .ref y2, .ref y3, .ref y4, .ref mZ])), (mY, .inl (cI, 2600, .inl eY')), (mB, .inl (cS, 131072, .inl eB))] hh9 ∧ (0 ≤ zn'.toInt ∧ zn'.toInt ≤ 2600) ∧ (rg 0 255 eY') ∧ (0 ≤ r.toInt ∧ r.toInt ≤ 1) ∧ (zn'.toInt ≤ zn.toInt + 8)) := by
  refine kMi_of (cc := cX12_writeLetter) (maxL := 4) (ret := (some .boolean)) (lv := [(0, .ref oM), (1, .int cd), (2, .int x)]) (by decide +kernel) rfl rfl (Nat.le_of_ble_eq_true rfl) ?_
  intro p e s m below meth c A QQ ls hx hb hr hts hml hown hlocks hA hQQ hK hX hP hD hS hl
  have hown : s.vm.findClass RX12 = some m.cls := hown
  have hcf := k_cf hx hb hml hown hts
  have in_X12 : ∀ w ∈ wsX120, w ∈ wsX12_writeLetter := fun _ h => List.mem_cons_of_mem _ (List.mem_append_right _ (h))
  replace g_zt := hid g_zt
  replace g_zp := hid g_zp
  replace g_zf := hid g_zf
  replace g_zh := hid g_zh
  replace g_zr := hid g_zr
  replace g_zc := hid g_zc
  replace g_zy := hid g_zy
  replace g_za := hid g_za
  replace g_zb := hid g_zb
  replace g_zs := hid g_zs
  replace g_zq := hid g_zq
  replace g_zm := hid g_zm
  replace g_zk := hid g_zk
  refine lv_iload_n hx hb dX12_writeLetter_0 rfl (lv_at hl 1 rfl) ?_
  refine lv_iconst (v := 2) hx hb dX12_writeLetter_1 (by decide) ?_
  refine lv_icmp_ge (tgt := 31) hx hb dX12_writeLetter_2 (by decide) (fun c_1 => ?_) (fun c_1 => ?_)
  · have tc_1 : 2 ≤ cd.toInt := v_le c_1
    refine lv_iload_n hx hb dX12_writeLetter_31 rfl (lv_at hl 1 rfl) ?_
    refine lv_iconst (v := 2) hx hb dX12_writeLetter_32 (by decide) ?_
    refine lv_icmp_ne (tgt := 128) hx hb dX12_writeLetter_33 (by decide) (fun c_2 => ?_) (fun c_2 => ?_)
    · have tc_2 : ¬ cd.toInt = 2 := v_ne c_2
      refine lv_iload_n hx hb dX12_writeLetter_128 rfl (lv_at hl 1 rfl) ?_
      refine lv_iconst (v := 3) hx hb dX12_writeLetter_129 (by decide) ?_
      refine lv_icmp_ne (tgt := 218) hx hb dX12_writeLetter_130 (by decide) (fun c_3 => ?_) (fun c_3 => ?_)
      · have tc_3 : ¬ cd.toInt = 3 := v_ne c_3
        refine lv_aload_n hx hb dX12_writeLetter_218 rfl (lv_at hl 0 rfl) ?_
        refine va_get (D := (dC, dI)) (ci := 12) (v := .ref mB) (C := RX12) (T := TX12) (N := 40) hx hb hts in_X12 hown hK hP 0 rfl rfl 7 (by decide) (hts (.fieldLink RX12 23 "TextMenderModel" "byteOfLetter" "[S") (List.mem_of_getElem? (i := 1) rfl)) (fun _ h9 => h9) rfl dX12_writeLetter_219 ?_
        refine lv_ldc hx hb hown (hts (.constant RX12 88 (65536)) (List.mem_of_getElem? (i := 2) rfl)) dX12_writeLetter_222 ?_
        refine lv_iload_n hx hb dX12_writeLetter_224 rfl (lv_at hl 1 rfl) ?_
        refine lv_iconst (v := 4) hx hb dX12_writeLetter_225 (by decide) ?_
        refine lv_isub hx hb dX12_writeLetter_226 ?_
        refine lv_topi (fun x_4 ex_4 => ?_)
        have tx_4 : x_4.toInt = cd.toInt - 4 := v_subR (l2 := 4) (h2 := 4) ex_4 g_cd (by decide) (by decide) (by decide)
        refine lv_imul hx hb dX12_writeLetter_227 ?_
        refine lv_topi (fun x_5 ex_5 => ?_)
        have tx_5 : x_5.toInt = 65536 * x_4.toInt := v_mul ex_5 (by show -2147483648 ≤ 65536 * x_4.toInt; omega) (by show 65536 * x_4.toInt < 2147483648; omega)
        refine lv_iload_n hx hb dX12_writeLetter_228 rfl (lv_at hl 2 rfl) ?_
        refine lv_iadd hx hb dX12_writeLetter_229 ?_
        refine lv_topi (fun x_6 ex_6 => ?_)
        have tx_6 : x_6.toInt = x_5.toInt + x.toInt := v_add ex_6 (by show -2147483648 ≤ x_5.toInt + x.toInt; omega) (by show x_5.toInt + x.toInt < 2147483648; omega)
        refine va_sald hx hb hK hP 2 1 rfl rfl (v_in (by omega)) dX12_writeLetter_230 ?_
        refine lv_topi (fun x_7 ex_7 => ?_)
        have tx_7 : -1 ≤ x_7.toInt ∧ x_7.toInt ≤ 255 := rg_at g_eB ex_7
        refine lv_istore_n (lv' := [(3, .int x_7), (0, .ref oM), (1, .int cd), (2, .int x)]) hx hb dX12_writeLetter_231 rfl hl (by decide) rfl (fun ls hl => ?_)
        refine lv_iload_n hx hb dX12_writeLetter_232 rfl (lv_at hl 0 rfl) ?_
        refine lv_iconst (v := (-1)) hx hb dX12_writeLetter_233 (by decide) ?_
        refine lv_icmp_ne (tgt := 239) hx hb dX12_writeLetter_234 (by decide) (fun c_8 => ?_) (fun c_8 => ?_)
        · have tc_8 : ¬ x_7.toInt = (-1) := v_ne c_8
          refine lv_aload_n hx hb dX12_writeLetter_239 rfl (lv_at hl 1 rfl) ?_
          refine lv_iload_n hx hb dX12_writeLetter_240 rfl (lv_at hl 0 rfl) ?_
          refine kV_v (rest := []) (q0 := 0) (ci := 12) hcf (m_X12_put l dC dI cI cS s.heap.size oM mT mS mX mL mB mD m1 m2 mR x1 x2 x3 mH mY mE mW mO y1 y2 y3 y4 mZ zt zp zf zh zr zc zy za zb zs zq zw ze zn zm zl zk zd eY x_7 (g_zt) (g_zp) (g_zf) (g_zh) (g_zr) (g_zc) (g_zy) (g_za) (g_zb) (g_zs) (g_zq) (g_zn) (g_zm) (g_zk) (g_eY) (by omega) (by omega)) kc_X12_put gX12_writeLetter_X12_put rfl rfl rfl ⟨Nat.le_of_ble_eq_true rfl, Nat.le_of_ble_eq_true rfl⟩ kX_t hK hP hD hS hA [0, 1] [2] rfl (by decide +kernel) rfl rfl rfl hl rfl (Nat.le_of_ble_eq_true rfl) dX12_writeLetter_241 ⟨Nat.le_of_ble_eq_true rfl, Nat.le_of_ble_eq_true rfl⟩ (fun H locs hB hJ hSn => ?_)
          obtain ⟨zn_9, eY_9, ⟨hP1, hD1⟩, hf9_0, hf9_1, hf9_2⟩ := hB
          obtain ⟨hPn, hDn⟩ := hJ _ hP1 hD1 [(mB, .inl (cS, 131072, .inl eB)), (oM, .inr (12, [.ref mT, .int zt, .ref mS, .ref mX, .int zp, .int zf, .ref mL, .ref mB, .ref mD, .ref m1, .ref m2, .int zh, .ref mR, .int zr, .ref x1, .ref x2, .ref x3, .int zc, .ref mH, .int zy, .int za, .int zb, .int zs, .int zq, .int zw, .int ze, .ref mY, .int zn_9, .ref mE, .int zm, .int zl, .ref mW, .int zk, .ref mO, .int zd, .ref y1, .ref y2, .ref y3, .ref y4, .ref mZ])), (mY, .inl (cI, 2600, .inl eY_9))] rfl
          clear hP hD hS hJ hP1 hD1
          have hP := hPn
          have hD := hDn
          have hS := hSn
          clear hPn hDn hSn
          refine lv_iconst (v := 1) hx hb dX12_writeLetter_244 (by decide) ?_
          exact kl_z (v := 1) hQQ hx hb hr hlocks hS dX12_writeLetter_245 (rfl) ⟨zn_9, eY_9, kPD_sub hP hD [1, 2, 0] (by decide +kernel) rfl, hf9_0, hf9_1, by decide, by show zn_9.toInt ≤ zn.toInt + 8; omega⟩
        · have tc_8 : x_7.toInt = (-1) := v_eq c_8
          refine lv_iconst (v := 0) hx hb dX12_writeLetter_237 (by decide) ?_
          exact kl_z (v := 0) hQQ hx hb hr hlocks hS dX12_writeLetter_238 (rfl) ⟨zn, eY, ⟨hP, hD⟩, g_zn, g_eY, by decide, by show zn.toInt ≤ zn.toInt + 8; omega⟩
      · have tc_3 : cd.toInt = 3 := v_eq c_3
        refine lv_iload_n hx hb dX12_writeLetter_133 rfl (lv_at hl 2 rfl) ?_
        refine lv_sipush (v := 128) hx hb dX12_writeLetter_134 (by decide) ?_
        refine lv_icmp_ge (tgt := 154) hx hb dX12_writeLetter_137 (by decide) (fun c_10 => ?_) (fun c_10 => ?_)
        · have tc_10 : 128 ≤ x.toInt := v_le c_10
          refine lv_aload_n hx hb dX12_writeLetter_154 rfl (lv_at hl 0 rfl) ?_
          refine lv_bipush (v := 38) hx hb dX12_writeLetter_155 (by decide) ?_
          refine kV_v (rest := []) (q0 := 0) (ci := 12) hcf (m_X12_put l dC dI cI cS s.heap.size oM mT mS mX mL mB mD m1 m2 mR x1 x2 x3 mH mY mE mW mO y1 y2 y3 y4 mZ zt zp zf zh zr zc zy za zb zs zq zw ze zn zm zl zk zd eY 38 (g_zt) (g_zp) (g_zf) (g_zh) (g_zr) (g_zc) (g_zy) (g_za) (g_zb) (g_zs) (g_zq) (g_zn) (g_zm) (g_zk) (g_eY) (by decide) (by omega)) kc_X12_put gX12_writeLetter_X12_put rfl rfl rfl ⟨Nat.le_of_ble_eq_true rfl, Nat.le_of_ble_eq_true rfl⟩ kX_t hK hP hD hS hA [0, 1] [2] rfl (by decide +kernel) rfl rfl rfl hl rfl (Nat.le_of_ble_eq_true rfl) dX12_writeLetter_157 ⟨Nat.le_of_ble_eq_true rfl, Nat.le_of_ble_eq_true rfl⟩ (fun H locs hB hJ hSn => ?_)
          obtain ⟨zn_11, eY_11, ⟨hP1, hD1⟩, hf11_0, hf11_1, hf11_2⟩ := hB
          obtain ⟨hPn, hDn⟩ := hJ _ hP1 hD1 [(mB, .inl (cS, 131072, .inl eB)), (oM, .inr (12, [.ref mT, .int zt, .ref mS, .ref mX, .int zp, .int zf, .ref mL, .ref mB, .ref mD, .ref m1, .ref m2, .int zh, .ref mR, .int zr, .ref x1, .ref x2, .ref x3, .int zc, .ref mH, .int zy, .int za, .int zb, .int zs, .int zq, .int zw, .int ze, .ref mY, .int zn_11, .ref mE, .int zm, .int zl, .ref mW, .int zk, .ref mO, .int zd, .ref y1, .ref y2, .ref y3, .ref y4, .ref mZ])), (mY, .inl (cI, 2600, .inl eY_11))] rfl
          clear hP hD hS hJ hP1 hD1
          have hP := hPn
          have hD := hDn
          have hS := hSn
          clear hPn hDn hSn
          refine lv_aload_n hx hb dX12_writeLetter_160 rfl (lv_at hl 0 rfl) ?_
          refine lv_bipush (v := 35) hx hb dX12_writeLetter_161 (by decide) ?_
          refine kV_v (rest := []) (q0 := 0) (ci := 12) hcf (m_X12_put l dC dI cI cS H.size oM mT mS mX mL mB mD m1 m2 mR x1 x2 x3 mH mY mE mW mO y1 y2 y3 y4 mZ zt zp zf zh zr zc zy za zb zs zq zw ze zn_11 zm zl zk zd eY_11 35 (g_zt) (g_zp) (g_zf) (g_zh) (g_zr) (g_zc) (g_zy) (g_za) (g_zb) (g_zs) (g_zq) (hf11_0) (g_zm) (g_zk) (hf11_1) (by decide) (by omega)) kc_X12_put gX12_writeLetter_X12_put rfl rfl rfl ⟨Nat.le_of_ble_eq_true rfl, Nat.le_of_ble_eq_true rfl⟩ kX_t hK hP hD hS hA [1, 2] [0] rfl (by decide +kernel) rfl rfl rfl hl rfl (Nat.le_of_ble_eq_true rfl) dX12_writeLetter_163 ⟨Nat.le_of_ble_eq_true rfl, Nat.le_of_ble_eq_true rfl⟩ (fun H locs hB hJ hSn => ?_)
          obtain ⟨zn_12, eY_12, ⟨hP1, hD1⟩, hf12_0, hf12_1, hf12_2⟩ := hB
          obtain ⟨hPn, hDn⟩ := hJ _ hP1 hD1 [(mB, .inl (cS, 131072, .inl eB)), (oM, .inr (12, [.ref mT, .int zt, .ref mS, .ref mX, .int zp, .int zf, .ref mL, .ref mB, .ref mD, .ref m1, .ref m2, .int zh, .ref mR, .int zr, .ref x1, .ref x2, .ref x3, .int zc, .ref mH, .int zy, .int za, .int zb, .int zs, .int zq, .int zw, .int ze, .ref mY, .int zn_12, .ref mE, .int zm, .int zl, .ref mW, .int zk, .ref mO, .int zd, .ref y1, .ref y2, .ref y3, .ref y4, .ref mZ])), (mY, .inl (cI, 2600, .inl eY_12))] rfl
          clear hP hD hS hJ hP1 hD1
          have hP := hPn
          have hD := hDn
          have hS := hSn
          clear hPn hDn hSn
          refine lv_iconst (v := 1) hx hb dX12_writeLetter_166 (by decide) ?_
          refine lv_istore_n (lv' := [(3, .int 1), (0, .ref oM), (1, .int cd), (2, .int x)]) hx hb dX12_writeLetter_167 rfl hl (by decide) rfl (fun ls hl => ?_)
          refine lv_iload_n hx hb dX12_writeLetter_168 rfl (lv_at hl 3 rfl) ?_
          refine lv_iload_n hx hb dX12_writeLetter_169 rfl (lv_at hl 0 rfl) ?_
          refine lv_idiv hx hb dX12_writeLetter_170 (by decide) ?_
          refine lv_topi (fun x_13 ex_13 => ?_)
          have tx_13 : x_13.toInt = x.toInt / 1 := v_div ex_13 (by omega) (by decide)
          refine lv_bipush (v := 10) hx hb dX12_writeLetter_171 (by decide) ?_
          refine lv_icmp_lt (tgt := 184) hx hb dX12_writeLetter_173 (by decide) (fun c_14 => by exfalso; have tc_14 : x_13.toInt < 10 := v_lt c_14; omega) (fun c_14 => ?_)
          have tc_14 : 10 ≤ x_13.toInt := v_nlt c_14
          refine lv_iload_n hx hb dX12_writeLetter_176 rfl (lv_at hl 0 rfl) ?_
          refine lv_bipush (v := 10) hx hb dX12_writeLetter_177 (by decide) ?_
          refine lv_imul hx hb dX12_writeLetter_179 ?_
          refine k_i (y := 10) (by decide) ?_
          refine lv_istore_n (lv' := [(3, .int 10), (0, .ref oM), (1, .int cd), (2, .int x)]) hx hb dX12_writeLetter_180 rfl hl (by decide) rfl (fun ls hl => ?_)
          refine lv_goto (tgt := 168) hx hb dX12_writeLetter_181 (by decide) ?_
          refine lv_iload_n hx hb dX12_writeLetter_168 rfl (lv_at hl 3 rfl) ?_
          refine lv_iload_n hx hb dX12_writeLetter_169 rfl (lv_at hl 0 rfl) ?_
          refine lv_idiv hx hb dX12_writeLetter_170 (by decide) ?_
          refine lv_topi (fun x_15 ex_15 => ?_)
          have tx_15 : x_15.toInt = x.toInt / 10 := v_div ex_15 (by omega) (by decide)
          refine lv_bipush (v := 10) hx hb dX12_writeLetter_171 (by decide) ?_
          refine lv_icmp_lt (tgt := 184) hx hb dX12_writeLetter_173 (by decide) (fun c_16 => by exfalso; have tc_16 : x_15.toInt < 10 := v_lt c_16; omega) (fun c_16 => ?_)
          have tc_16 : 10 ≤ x_15.toInt := v_nlt c_16
          refine lv_iload_n hx hb dX12_writeLetter_176 rfl (lv_at hl 0 rfl) ?_
          refine lv_bipush (v := 10) hx hb dX12_writeLetter_177 (by decide) ?_
          refine lv_imul hx hb dX12_writeLetter_179 ?_
          refine k_i (y := 100) (by decide) ?_
          refine lv_istore_n (lv' := [(3, .int 100), (0, .ref oM), (1, .int cd), (2, .int x)]) hx hb dX12_writeLetter_180 rfl hl (by decide) rfl (fun ls hl => ?_)
          refine lv_goto (tgt := 168) hx hb dX12_writeLetter_181 (by decide) ?_
          refine lv_iload_n hx hb dX12_writeLetter_168 rfl (lv_at hl 3 rfl) ?_
          refine lv_iload_n hx hb dX12_writeLetter_169 rfl (lv_at hl 0 rfl) ?_
          refine lv_idiv hx hb dX12_writeLetter_170 (by decide) ?_
          refine lv_topi (fun x_17 ex_17 => ?_)
          have tx_17 : x_17.toInt = x.toInt / 100 := v_div ex_17 (by omega) (by decide)
          refine lv_bipush (v := 10) hx hb dX12_writeLetter_171 (by decide) ?_
          refine lv_icmp_lt (tgt := 184) hx hb dX12_writeLetter_173 (by decide) (fun c_18 => ?_) (fun c_18 => ?_)
          · have tc_18 : x_17.toInt < 10 := v_lt c_18
            refine lv_iload_n hx hb dX12_writeLetter_184 rfl (lv_at hl 0 rfl) ?_
            refine lv_if_le (tgt := 209) hx hb dX12_writeLetter_185 (by decide) (fun c_19 => absurd c_19 (by decide)) (fun c_19 => ?_)
            refine lv_aload_n hx hb dX12_writeLetter_188 rfl (lv_at hl 1 rfl) ?_
            refine lv_bipush (v := 48) hx hb dX12_writeLetter_189 (by decide) ?_
            refine lv_iload_n hx hb dX12_writeLetter_191 rfl (lv_at hl 3 rfl) ?_
            refine lv_iload_n hx hb dX12_writeLetter_192 rfl (lv_at hl 0 rfl) ?_
            refine lv_idiv hx hb dX12_writeLetter_193 (by decide) ?_
            refine lv_topi (fun x_20 ex_20 => ?_)
            have tx_20 : x_20.toInt = x.toInt / 100 := v_div ex_20 (by omega) (by decide)
            refine lv_bipush (v := 10) hx hb dX12_writeLetter_194 (by decide) ?_
            refine lv_irem hx hb dX12_writeLetter_196 (by decide) ?_
            refine lv_topi (fun x_21 ex_21 => ?_)
            have tx_21 : x_21.toInt = x_20.toInt % 10 := v_rem ex_21 (by omega) (by decide)
            refine lv_iadd hx hb dX12_writeLetter_197 ?_
            refine lv_topi (fun x_22 ex_22 => ?_)
            have tx_22 : x_22.toInt = 48 + x_21.toInt := v_add ex_22 (by show -2147483648 ≤ 48 + x_21.toInt; omega) (by show 48 + x_21.toInt < 2147483648; omega)
            refine kV_v (rest := []) (q0 := 0) (ci := 12) hcf (m_X12_put l dC dI cI cS H.size oM mT mS mX mL mB mD m1 m2 mR x1 x2 x3 mH mY mE mW mO y1 y2 y3 y4 mZ zt zp zf zh zr zc zy za zb zs zq zw ze zn_12 zm zl zk zd eY_12 x_22 (g_zt) (g_zp) (g_zf) (g_zh) (g_zr) (g_zc) (g_zy) (g_za) (g_zb) (g_zs) (g_zq) (hf12_0) (g_zm) (g_zk) (hf12_1) (by omega) (by omega)) kc_X12_put gX12_writeLetter_X12_put rfl rfl rfl ⟨Nat.le_of_ble_eq_true rfl, Nat.le_of_ble_eq_true rfl⟩ kX_t hK hP hD hS hA [1, 2] [0] rfl (by decide +kernel) rfl rfl rfl hl rfl (Nat.le_of_ble_eq_true rfl) dX12_writeLetter_198 ⟨Nat.le_of_ble_eq_true rfl, Nat.le_of_ble_eq_true rfl⟩ (fun H locs hB hJ hSn => ?_)
            obtain ⟨zn_23, eY_23, ⟨hP1, hD1⟩, hf23_0, hf23_1, hf23_2⟩ := hB
            obtain ⟨hPn, hDn⟩ := hJ _ hP1 hD1 [(mB, .inl (cS, 131072, .inl eB)), (oM, .inr (12, [.ref mT, .int zt, .ref mS, .ref mX, .int zp, .int zf, .ref mL, .ref mB, .ref mD, .ref m1, .ref m2, .int zh, .ref mR, .int zr, .ref x1, .ref x2, .ref x3, .int zc, .ref mH, .int zy, .int za, .int zb, .int zs, .int zq, .int zw, .int ze, .ref mY, .int zn_23, .ref mE, .int zm, .int zl, .ref mW, .int zk, .ref mO, .int zd, .ref y1, .ref y2, .ref y3, .ref y4, .ref mZ])), (mY, .inl (cI, 2600, .inl eY_23))] rfl
            clear hP hD hS hJ hP1 hD1
            have hP := hPn
            have hD := hDn
            have hS := hSn
            clear hPn hDn hSn
            refine lv_iload_n hx hb dX12_writeLetter_201 rfl (lv_at hl 0 rfl) ?_
            refine lv_bipush (v := 10) hx hb dX12_writeLetter_202 (by decide) ?_
            refine lv_idiv hx hb dX12_writeLetter_204 (by decide) ?_
            refine k_i (y := 10) (by decide) ?_
            refine lv_istore_n (lv' := [(3, .int 10), (0, .ref oM), (1, .int cd), (2, .int x)]) hx hb dX12_writeLetter_205 rfl hl (by decide) rfl (fun ls hl => ?_)
            refine lv_goto (tgt := 184) hx hb dX12_writeLetter_206 (by decide) ?_
            refine lv_iload_n hx hb dX12_writeLetter_184 rfl (lv_at hl 0 rfl) ?_
            refine lv_if_le (tgt := 209) hx hb dX12_writeLetter_185 (by decide) (fun c_24 => absurd c_24 (by decide)) (fun c_24 => ?_)
            refine lv_aload_n hx hb dX12_writeLetter_188 rfl (lv_at hl 1 rfl) ?_
            refine lv_bipush (v := 48) hx hb dX12_writeLetter_189 (by decide) ?_
            refine lv_iload_n hx hb dX12_writeLetter_191 rfl (lv_at hl 3 rfl) ?_
            refine lv_iload_n hx hb dX12_writeLetter_192 rfl (lv_at hl 0 rfl) ?_
            refine lv_idiv hx hb dX12_writeLetter_193 (by decide) ?_
            refine lv_topi (fun x_25 ex_25 => ?_)
            have tx_25 : x_25.toInt = x.toInt / 10 := v_div ex_25 (by omega) (by decide)
            refine lv_bipush (v := 10) hx hb dX12_writeLetter_194 (by decide) ?_
            refine lv_irem hx hb dX12_writeLetter_196 (by decide) ?_
            refine lv_topi (fun x_26 ex_26 => ?_)
            have tx_26 : x_26.toInt = x_25.toInt % 10 := v_rem ex_26 (by omega) (by decide)
            refine lv_iadd hx hb dX12_writeLetter_197 ?_
            refine lv_topi (fun x_27 ex_27 => ?_)
            have tx_27 : x_27.toInt = 48 + x_26.toInt := v_add ex_27 (by show -2147483648 ≤ 48 + x_26.toInt; omega) (by show 48 + x_26.toInt < 2147483648; omega)
            refine kV_v (rest := []) (q0 := 0) (ci := 12) hcf (m_X12_put l dC dI cI cS H.size oM mT mS mX mL mB mD m1 m2 mR x1 x2 x3 mH mY mE mW mO y1 y2 y3 y4 mZ zt zp zf zh zr zc zy za zb zs zq zw ze zn_23 zm zl zk zd eY_23 x_27 (g_zt) (g_zp) (g_zf) (g_zh) (g_zr) (g_zc) (g_zy) (g_za) (g_zb) (g_zs) (g_zq) (hf23_0) (g_zm) (g_zk) (hf23_1) (by omega) (by omega)) kc_X12_put gX12_writeLetter_X12_put rfl rfl rfl ⟨Nat.le_of_ble_eq_true rfl, Nat.le_of_ble_eq_true rfl⟩ kX_t hK hP hD hS hA [1, 2] [0] rfl (by decide +kernel) rfl rfl rfl hl rfl (Nat.le_of_ble_eq_true rfl) dX12_writeLetter_198 ⟨Nat.le_of_ble_eq_true rfl, Nat.le_of_ble_eq_true rfl⟩ (fun H locs hB hJ hSn => ?_)
            obtain ⟨zn_28, eY_28, ⟨hP1, hD1⟩, hf28_0, hf28_1, hf28_2⟩ := hB
            obtain ⟨hPn, hDn⟩ := hJ _ hP1 hD1 [(mB, .inl (cS, 131072, .inl eB)), (oM, .inr (12, [.ref mT, .int zt, .ref mS, .ref mX, .int zp, .int zf, .ref mL, .ref mB, .ref mD, .ref m1, .ref m2, .int zh, .ref mR, .int zr, .ref x1, .ref x2, .ref x3, .int zc, .ref mH, .int zy, .int za, .int zb, .int zs, .int zq, .int zw, .int ze, .ref mY, .int zn_28, .ref mE, .int zm, .int zl, .ref mW, .int zk, .ref mO, .int zd, .ref y1, .ref y2, .ref y3, .ref y4, .ref mZ])), (mY, .inl (cI, 2600, .inl eY_28))] rfl
            clear hP hD hS hJ hP1 hD1
            have hP := hPn
            have hD := hDn
            have hS := hSn
            clear hPn hDn hSn
            refine lv_iload_n hx hb dX12_writeLetter_201 rfl (lv_at hl 0 rfl) ?_
            refine lv_bipush (v := 10) hx hb dX12_writeLetter_202 (by decide) ?_
            refine lv_idiv hx hb dX12_writeLetter_204 (by decide) ?_
            refine k_i (y := 1) (by decide) ?_
            refine lv_istore_n (lv' := [(3, .int 1), (0, .ref oM), (1, .int cd), (2, .int x)]) hx hb dX12_writeLetter_205 rfl hl (by decide) rfl (fun ls hl => ?_)
            refine lv_goto (tgt := 184) hx hb dX12_writeLetter_206 (by decide) ?_
            refine lv_iload_n hx hb dX12_writeLetter_184 rfl (lv_at hl 0 rfl) ?_
            refine lv_if_le (tgt := 209) hx hb dX12_writeLetter_185 (by decide) (fun c_29 => absurd c_29 (by decide)) (fun c_29 => ?_)
            refine lv_aload_n hx hb dX12_writeLetter_188 rfl (lv_at hl 1 rfl) ?_
            refine lv_bipush (v := 48) hx hb dX12_writeLetter_189 (by decide) ?_
            refine lv_iload_n hx hb dX12_writeLetter_191 rfl (lv_at hl 3 rfl) ?_
            refine lv_iload_n hx hb dX12_writeLetter_192 rfl (lv_at hl 0 rfl) ?_
            refine lv_idiv hx hb dX12_writeLetter_193 (by decide) ?_
            refine lv_topi (fun x_30 ex_30 => ?_)
            have tx_30 : x_30.toInt = x.toInt / 1 := v_div ex_30 (by omega) (by decide)
            refine lv_bipush (v := 10) hx hb dX12_writeLetter_194 (by decide) ?_
            refine lv_irem hx hb dX12_writeLetter_196 (by decide) ?_
            refine lv_topi (fun x_31 ex_31 => ?_)
            have tx_31 : x_31.toInt = x_30.toInt % 10 := v_rem ex_31 (by omega) (by decide)
            refine lv_iadd hx hb dX12_writeLetter_197 ?_
            refine lv_topi (fun x_32 ex_32 => ?_)
            have tx_32 : x_32.toInt = 48 + x_31.toInt := v_add ex_32 (by show -2147483648 ≤ 48 + x_31.toInt; omega) (by show 48 + x_31.toInt < 2147483648; omega)
            refine kV_v (rest := []) (q0 := 0) (ci := 12) hcf (m_X12_put l dC dI cI cS H.size oM mT mS mX mL mB mD m1 m2 mR x1 x2 x3 mH mY mE mW mO y1 y2 y3 y4 mZ zt zp zf zh zr zc zy za zb zs zq zw ze zn_28 zm zl zk zd eY_28 x_32 (g_zt) (g_zp) (g_zf) (g_zh) (g_zr) (g_zc) (g_zy) (g_za) (g_zb) (g_zs) (g_zq) (hf28_0) (g_zm) (g_zk) (hf28_1) (by omega) (by omega)) kc_X12_put gX12_writeLetter_X12_put rfl rfl rfl ⟨Nat.le_of_ble_eq_true rfl, Nat.le_of_ble_eq_true rfl⟩ kX_t hK hP hD hS hA [1, 2] [0] rfl (by decide +kernel) rfl rfl rfl hl rfl (Nat.le_of_ble_eq_true rfl) dX12_writeLetter_198 ⟨Nat.le_of_ble_eq_true rfl, Nat.le_of_ble_eq_true rfl⟩ (fun H locs hB hJ hSn => ?_)
            obtain ⟨zn_33, eY_33, ⟨hP1, hD1⟩, hf33_0, hf33_1, hf33_2⟩ := hB
            obtain ⟨hPn, hDn⟩ := hJ _ hP1 hD1 [(mB, .inl (cS, 131072, .inl eB)), (oM, .inr (12, [.ref mT, .int zt, .ref mS, .ref mX, .int zp, .int zf, .ref mL, .ref mB, .ref mD, .ref m1, .ref m2, .int zh, .ref mR, .int zr, .ref x1, .ref x2, .ref x3, .int zc, .ref mH, .int zy, .int za, .int zb, .int zs, .int zq, .int zw, .int ze, .ref mY, .int zn_33, .ref mE, .int zm, .int zl, .ref mW, .int zk, .ref mO, .int zd, .ref y1, .ref y2, .ref y3, .ref y4, .ref mZ])), (mY, .inl (cI, 2600, .inl eY_33))] rfl
            clear hP hD hS hJ hP1 hD1
            have hP := hPn
            have hD := hDn
            have hS := hSn
            clear hPn hDn hSn
            refine lv_iload_n hx hb dX12_writeLetter_201 rfl (lv_at hl 0 rfl) ?_
            refine lv_bipush (v := 10) hx hb dX12_writeLetter_202 (by decide) ?_
            refine lv_idiv hx hb dX12_writeLetter_204 (by decide) ?_
            refine k_i (y := 0) (by decide) ?_
            refine lv_istore_n (lv' := [(3, .int 0), (0, .ref oM), (1, .int cd), (2, .int x)]) hx hb dX12_writeLetter_205 rfl hl (by decide) rfl (fun ls hl => ?_)
            refine lv_goto (tgt := 184) hx hb dX12_writeLetter_206 (by decide) ?_
            refine lv_iload_n hx hb dX12_writeLetter_184 rfl (lv_at hl 0 rfl) ?_
            refine lv_if_le (tgt := 209) hx hb dX12_writeLetter_185 (by decide) (fun c_34 => ?_) (fun c_34 => absurd c_34 (by decide))
            refine lv_aload_n hx hb dX12_writeLetter_209 rfl (lv_at hl 1 rfl) ?_
            refine lv_bipush (v := 59) hx hb dX12_writeLetter_210 (by decide) ?_
            refine kV_v (rest := []) (q0 := 0) (ci := 12) hcf (m_X12_put l dC dI cI cS H.size oM mT mS mX mL mB mD m1 m2 mR x1 x2 x3 mH mY mE mW mO y1 y2 y3 y4 mZ zt zp zf zh zr zc zy za zb zs zq zw ze zn_33 zm zl zk zd eY_33 59 (g_zt) (g_zp) (g_zf) (g_zh) (g_zr) (g_zc) (g_zy) (g_za) (g_zb) (g_zs) (g_zq) (hf33_0) (g_zm) (g_zk) (hf33_1) (by decide) (by omega)) kc_X12_put gX12_writeLetter_X12_put rfl rfl rfl ⟨Nat.le_of_ble_eq_true rfl, Nat.le_of_ble_eq_true rfl⟩ kX_t hK hP hD hS hA [1, 2] [0] rfl (by decide +kernel) rfl rfl rfl hl rfl (Nat.le_of_ble_eq_true rfl) dX12_writeLetter_212 ⟨Nat.le_of_ble_eq_true rfl, Nat.le_of_ble_eq_true rfl⟩ (fun H locs hB hJ hSn => ?_)
            obtain ⟨zn_35, eY_35, ⟨hP1, hD1⟩, hf35_0, hf35_1, hf35_2⟩ := hB
            obtain ⟨hPn, hDn⟩ := hJ _ hP1 hD1 [(mB, .inl (cS, 131072, .inl eB)), (oM, .inr (12, [.ref mT, .int zt, .ref mS, .ref mX, .int zp, .int zf, .ref mL, .ref mB, .ref mD, .ref m1, .ref m2, .int zh, .ref mR, .int zr, .ref x1, .ref x2, .ref x3, .int zc, .ref mH, .int zy, .int za, .int zb, .int zs, .int zq, .int zw, .int ze, .ref mY, .int zn_35, .ref mE, .int zm, .int zl, .ref mW, .int zk, .ref mO, .int zd, .ref y1, .ref y2, .ref y3, .ref y4, .ref mZ])), (mY, .inl (cI, 2600, .inl eY_35))] rfl
            clear hP hD hS hJ hP1 hD1
            have hP := hPn
            have hD := hDn
            have hS := hSn
            clear hPn hDn hSn
            refine lv_goto (tgt := 244) hx hb dX12_writeLetter_215 (by decide) ?_
            refine lv_iconst (v := 1) hx hb dX12_writeLetter_244 (by decide) ?_
            exact kl_z (v := 1) hQQ hx hb hr hlocks hS dX12_writeLetter_245 (rfl) ⟨zn_35, eY_35, kPD_sub hP hD [1, 2, 0] (by decide +kernel) rfl, hf35_0, hf35_1, by decide, by show zn_35.toInt ≤ zn.toInt + 8; omega⟩
          · have tc_18 : 10 ≤ x_17.toInt := v_nlt c_18
            refine lv_iload_n hx hb dX12_writeLetter_176 rfl (lv_at hl 0 rfl) ?_
            refine lv_bipush (v := 10) hx hb dX12_writeLetter_177 (by decide) ?_
            refine lv_imul hx hb dX12_writeLetter_179 ?_
            refine k_i (y := 1000) (by decide) ?_
            refine lv_istore_n (lv' := [(3, .int 1000), (0, .ref oM), (1, .int cd), (2, .int x)]) hx hb dX12_writeLetter_180 rfl hl (by decide) rfl (fun ls hl => ?_)
            refine lv_goto (tgt := 168) hx hb dX12_writeLetter_181 (by decide) ?_
            refine lv_iload_n hx hb dX12_writeLetter_168 rfl (lv_at hl 3 rfl) ?_
            refine lv_iload_n hx hb dX12_writeLetter_169 rfl (lv_at hl 0 rfl) ?_
            refine lv_idiv hx hb dX12_writeLetter_170 (by decide) ?_
            refine lv_topi (fun x_36 ex_36 => ?_)
            have tx_36 : x_36.toInt = x.toInt / 1000 := v_div ex_36 (by omega) (by decide)
            refine lv_bipush (v := 10) hx hb dX12_writeLetter_171 (by decide) ?_
            refine lv_icmp_lt (tgt := 184) hx hb dX12_writeLetter_173 (by decide) (fun c_37 => ?_) (fun c_37 => ?_)
            · have tc_37 : x_36.toInt < 10 := v_lt c_37
              refine lv_iload_n hx hb dX12_writeLetter_184 rfl (lv_at hl 0 rfl) ?_
              refine lv_if_le (tgt := 209) hx hb dX12_writeLetter_185 (by decide) (fun c_38 => absurd c_38 (by decide)) (fun c_38 => ?_)
              refine lv_aload_n hx hb dX12_writeLetter_188 rfl (lv_at hl 1 rfl) ?_
              refine lv_bipush (v := 48) hx hb dX12_writeLetter_189 (by decide) ?_
              refine lv_iload_n hx hb dX12_writeLetter_191 rfl (lv_at hl 3 rfl) ?_
              refine lv_iload_n hx hb dX12_writeLetter_192 rfl (lv_at hl 0 rfl) ?_
              refine lv_idiv hx hb dX12_writeLetter_193 (by decide) ?_
              refine lv_topi (fun x_39 ex_39 => ?_)
              have tx_39 : x_39.toInt = x.toInt / 1000 := v_div ex_39 (by omega) (by decide)
              refine lv_bipush (v := 10) hx hb dX12_writeLetter_194 (by decide) ?_
              refine lv_irem hx hb dX12_writeLetter_196 (by decide) ?_
              refine lv_topi (fun x_40 ex_40 => ?_)
              have tx_40 : x_40.toInt = x_39.toInt % 10 := v_rem ex_40 (by omega) (by decide)
              refine lv_iadd hx hb dX12_writeLetter_197 ?_
              refine lv_topi (fun x_41 ex_41 => ?_)
              have tx_41 : x_41.toInt = 48 + x_40.toInt := v_add ex_41 (by show -2147483648 ≤ 48 + x_40.toInt; omega) (by show 48 + x_40.toInt < 2147483648; omega)
              refine kV_v (rest := []) (q0 := 0) (ci := 12) hcf (m_X12_put l dC dI cI cS H.size oM mT mS mX mL mB mD m1 m2 mR x1 x2 x3 mH mY mE mW mO y1 y2 y3 y4 mZ zt zp zf zh zr zc zy za zb zs zq zw ze zn_12 zm zl zk zd eY_12 x_41 (g_zt) (g_zp) (g_zf) (g_zh) (g_zr) (g_zc) (g_zy) (g_za) (g_zb) (g_zs) (g_zq) (hf12_0) (g_zm) (g_zk) (hf12_1) (by omega) (by omega)) kc_X12_put gX12_writeLetter_X12_put rfl rfl rfl ⟨Nat.le_of_ble_eq_true rfl, Nat.le_of_ble_eq_true rfl⟩ kX_t hK hP hD hS hA [1, 2] [0] rfl (by decide +kernel) rfl rfl rfl hl rfl (Nat.le_of_ble_eq_true rfl) dX12_writeLetter_198 ⟨Nat.le_of_ble_eq_true rfl, Nat.le_of_ble_eq_true rfl⟩ (fun H locs hB hJ hSn => ?_)
              obtain ⟨zn_42, eY_42, ⟨hP1, hD1⟩, hf42_0, hf42_1, hf42_2⟩ := hB
              obtain ⟨hPn, hDn⟩ := hJ _ hP1 hD1 [(mB, .inl (cS, 131072, .inl eB)), (oM, .inr (12, [.ref mT, .int zt, .ref mS, .ref mX, .int zp, .int zf, .ref mL, .ref mB, .ref mD, .ref m1, .ref m2, .int zh, .ref mR, .int zr, .ref x1, .ref x2, .ref x3, .int zc, .ref mH, .int zy, .int za, .int zb, .int zs, .int zq, .int zw, .int ze, .ref mY, .int zn_42, .ref mE, .int zm, .int zl, .ref mW, .int zk, .ref mO, .int zd, .ref y1, .ref y2, .ref y3, .ref y4, .ref mZ])), (mY, .inl (cI, 2600, .inl eY_42))] rfl
              clear hP hD hS hJ hP1 hD1
              have hP := hPn
              have hD := hDn
              have hS := hSn
              clear hPn hDn hSn
              refine lv_iload_n hx hb dX12_writeLetter_201 rfl (lv_at hl 0 rfl) ?_
              refine lv_bipush (v := 10) hx hb dX12_writeLetter_202 (by decide) ?_
              refine lv_idiv hx hb dX12_writeLetter_204 (by decide) ?_
              refine k_i (y := 100) (by decide) ?_
              refine lv_istore_n (lv' := [(3, .int 100), (0, .ref oM), (1, .int cd), (2, .int x)]) hx hb dX12_writeLetter_205 rfl hl (by decide) rfl (fun ls hl => ?_)
              refine lv_goto (tgt := 184) hx hb dX12_writeLetter_206 (by decide) ?_
              refine lv_iload_n hx hb dX12_writeLetter_184 rfl (lv_at hl 0 rfl) ?_
              refine lv_if_le (tgt := 209) hx hb dX12_writeLetter_185 (by decide) (fun c_43 => absurd c_43 (by decide)) (fun c_43 => ?_)
              refine lv_aload_n hx hb dX12_writeLetter_188 rfl (lv_at hl 1 rfl) ?_
              refine lv_bipush (v := 48) hx hb dX12_writeLetter_189 (by decide) ?_
              refine lv_iload_n hx hb dX12_writeLetter_191 rfl (lv_at hl 3 rfl) ?_
              refine lv_iload_n hx hb dX12_writeLetter_192 rfl (lv_at hl 0 rfl) ?_
              refine lv_idiv hx hb dX12_writeLetter_193 (by decide) ?_
              refine lv_topi (fun x_44 ex_44 => ?_)
              have tx_44 : x_44.toInt = x.toInt / 100 := v_div ex_44 (by omega) (by decide)
              refine lv_bipush (v := 10) hx hb dX12_writeLetter_194 (by decide) ?_
              refine lv_irem hx hb dX12_writeLetter_196 (by decide) ?_
              refine lv_topi (fun x_45 ex_45 => ?_)
              have tx_45 : x_45.toInt = x_44.toInt % 10 := v_rem ex_45 (by omega) (by decide)
              refine lv_iadd hx hb dX12_writeLetter_197 ?_
              refine lv_topi (fun x_46 ex_46 => ?_)
              have tx_46 : x_46.toInt = 48 + x_45.toInt := v_add ex_46 (by show -2147483648 ≤ 48 + x_45.toInt; omega) (by show 48 + x_45.toInt < 2147483648; omega)
              refine kV_v (rest := []) (q0 := 0) (ci := 12) hcf (m_X12_put l dC dI cI cS H.size oM mT mS mX mL mB mD m1 m2 mR x1 x2 x3 mH mY mE mW mO y1 y2 y3 y4 mZ zt zp zf zh zr zc zy za zb zs zq zw ze zn_42 zm zl zk zd eY_42 x_46 (g_zt) (g_zp) (g_zf) (g_zh) (g_zr) (g_zc) (g_zy) (g_za) (g_zb) (g_zs) (g_zq) (hf42_0) (g_zm) (g_zk) (hf42_1) (by omega) (by omega)) kc_X12_put gX12_writeLetter_X12_put rfl rfl rfl ⟨Nat.le_of_ble_eq_true rfl, Nat.le_of_ble_eq_true rfl⟩ kX_t hK hP hD hS hA [1, 2] [0] rfl (by decide +kernel) rfl rfl rfl hl rfl (Nat.le_of_ble_eq_true rfl) dX12_writeLetter_198 ⟨Nat.le_of_ble_eq_true rfl, Nat.le_of_ble_eq_true rfl⟩ (fun H locs hB hJ hSn => ?_)
              obtain ⟨zn_47, eY_47, ⟨hP1, hD1⟩, hf47_0, hf47_1, hf47_2⟩ := hB
              obtain ⟨hPn, hDn⟩ := hJ _ hP1 hD1 [(mB, .inl (cS, 131072, .inl eB)), (oM, .inr (12, [.ref mT, .int zt, .ref mS, .ref mX, .int zp, .int zf, .ref mL, .ref mB, .ref mD, .ref m1, .ref m2, .int zh, .ref mR, .int zr, .ref x1, .ref x2, .ref x3, .int zc, .ref mH, .int zy, .int za, .int zb, .int zs, .int zq, .int zw, .int ze, .ref mY, .int zn_47, .ref mE, .int zm, .int zl, .ref mW, .int zk, .ref mO, .int zd, .ref y1, .ref y2, .ref y3, .ref y4, .ref mZ])), (mY, .inl (cI, 2600, .inl eY_47))] rfl
              clear hP hD hS hJ hP1 hD1
              have hP := hPn
              have hD := hDn
              have hS := hSn
              clear hPn hDn hSn
              refine lv_iload_n hx hb dX12_writeLetter_201 rfl (lv_at hl 0 rfl) ?_
              refine lv_bipush (v := 10) hx hb dX12_writeLetter_202 (by decide) ?_
              refine lv_idiv hx hb dX12_writeLetter_204 (by decide) ?_
              refine k_i (y := 10) (by decide) ?_
              refine lv_istore_n (lv' := [(3, .int 10), (0, .ref oM), (1, .int cd), (2, .int x)]) hx hb dX12_writeLetter_205 rfl hl (by decide) rfl (fun ls hl => ?_)
              refine lv_goto (tgt := 184) hx hb dX12_writeLetter_206 (by decide) ?_
              refine lv_iload_n hx hb dX12_writeLetter_184 rfl (lv_at hl 0 rfl) ?_
              refine lv_if_le (tgt := 209) hx hb dX12_writeLetter_185 (by decide) (fun c_48 => absurd c_48 (by decide)) (fun c_48 => ?_)
              refine lv_aload_n hx hb dX12_writeLetter_188 rfl (lv_at hl 1 rfl) ?_
              refine lv_bipush (v := 48) hx hb dX12_writeLetter_189 (by decide) ?_
              refine lv_iload_n hx hb dX12_writeLetter_191 rfl (lv_at hl 3 rfl) ?_
              refine lv_iload_n hx hb dX12_writeLetter_192 rfl (lv_at hl 0 rfl) ?_
              refine lv_idiv hx hb dX12_writeLetter_193 (by decide) ?_
              refine lv_topi (fun x_49 ex_49 => ?_)
              have tx_49 : x_49.toInt = x.toInt / 10 := v_div ex_49 (by omega) (by decide)
              refine lv_bipush (v := 10) hx hb dX12_writeLetter_194 (by decide) ?_
              refine lv_irem hx hb dX12_writeLetter_196 (by decide) ?_
              refine lv_topi (fun x_50 ex_50 => ?_)
              have tx_50 : x_50.toInt = x_49.toInt % 10 := v_rem ex_50 (by omega) (by decide)
              refine lv_iadd hx hb dX12_writeLetter_197 ?_
              refine lv_topi (fun x_51 ex_51 => ?_)
              have tx_51 : x_51.toInt = 48 + x_50.toInt := v_add ex_51 (by show -2147483648 ≤ 48 + x_50.toInt; omega) (by show 48 + x_50.toInt < 2147483648; omega)
              refine kV_v (rest := []) (q0 := 0) (ci := 12) hcf (m_X12_put l dC dI cI cS H.size oM mT mS mX mL mB mD m1 m2 mR x1 x2 x3 mH mY mE mW mO y1 y2 y3 y4 mZ zt zp zf zh zr zc zy za zb zs zq zw ze zn_47 zm zl zk zd eY_47 x_51 (g_zt) (g_zp) (g_zf) (g_zh) (g_zr) (g_zc) (g_zy) (g_za) (g_zb) (g_zs) (g_zq) (hf47_0) (g_zm) (g_zk) (hf47_1) (by omega) (by omega)) kc_X12_put gX12_writeLetter_X12_put rfl rfl rfl ⟨Nat.le_of_ble_eq_true rfl, Nat.le_of_ble_eq_true rfl⟩ kX_t hK hP hD hS hA [1, 2] [0] rfl (by decide +kernel) rfl rfl rfl hl rfl (Nat.le_of_ble_eq_true rfl) dX12_writeLetter_198 ⟨Nat.le_of_ble_eq_true rfl, Nat.le_of_ble_eq_true rfl⟩ (fun H locs hB hJ hSn => ?_)
              obtain ⟨zn_52, eY_52, ⟨hP1, hD1⟩, hf52_0, hf52_1, hf52_2⟩ := hB
              obtain ⟨hPn, hDn⟩ := hJ _ hP1 hD1 [(mB, .inl (cS, 131072, .inl eB)), (oM, .inr (12, [.ref mT, .int zt, .ref mS, .ref mX, .int zp, .int zf, .ref mL, .ref mB, .ref mD, .ref m1, .ref m2, .int zh, .ref mR, .int zr, .ref x1, .ref x2, .ref x3, .int zc, .ref mH, .int zy, .int za, .int zb, .int zs, .int zq, .int zw, .int ze, .ref mY, .int zn_52, .ref mE, .int zm, .int zl, .ref mW, .int zk, .ref mO, .int zd, .ref y1, .ref y2, .ref y3, .ref y4, .ref mZ])), (mY, .inl (cI, 2600, .inl eY_52))] rfl
              clear hP hD hS hJ hP1 hD1
              have hP := hPn
              have hD := hDn
              have hS := hSn
              clear hPn hDn hSn
              refine lv_iload_n hx hb dX12_writeLetter_201 rfl (lv_at hl 0 rfl) ?_
              refine lv_bipush (v := 10) hx hb dX12_writeLetter_202 (by decide) ?_
              refine lv_idiv hx hb dX12_writeLetter_204 (by decide) ?_
              refine k_i (y := 1) (by decide) ?_
              refine lv_istore_n (lv' := [(3, .int 1), (0, .ref oM), (1, .int cd), (2, .int x)]) hx hb dX12_writeLetter_205 rfl hl (by decide) rfl (fun ls hl => ?_)
              refine lv_goto (tgt := 184) hx hb dX12_writeLetter_206 (by decide) ?_
              refine lv_iload_n hx hb dX12_writeLetter_184 rfl (lv_at hl 0 rfl) ?_
              refine lv_if_le (tgt := 209) hx hb dX12_writeLetter_185 (by decide) (fun c_53 => absurd c_53 (by decide)) (fun c_53 => ?_)
              refine lv_aload_n hx hb dX12_writeLetter_188 rfl (lv_at hl 1 rfl) ?_
              refine lv_bipush (v := 48) hx hb dX12_writeLetter_189 (by decide) ?_
              refine lv_iload_n hx hb dX12_writeLetter_191 rfl (lv_at hl 3 rfl) ?_
              refine lv_iload_n hx hb dX12_writeLetter_192 rfl (lv_at hl 0 rfl) ?_
              refine lv_idiv hx hb dX12_writeLetter_193 (by decide) ?_
              refine lv_topi (fun x_54 ex_54 => ?_)
              have tx_54 : x_54.toInt = x.toInt / 1 := v_div ex_54 (by omega) (by decide)
              refine lv_bipush (v := 10) hx hb dX12_writeLetter_194 (by decide) ?_
              refine lv_irem hx hb dX12_writeLetter_196 (by decide) ?_
              refine lv_topi (fun x_55 ex_55 => ?_)
              have tx_55 : x_55.toInt = x_54.toInt % 10 := v_rem ex_55 (by omega) (by decide)
              refine lv_iadd hx hb dX12_writeLetter_197 ?_
              refine lv_topi (fun x_56 ex_56 => ?_)
              have tx_56 : x_56.toInt = 48 + x_55.toInt := v_add ex_56 (by show -2147483648 ≤ 48 + x_55.toInt; omega) (by show 48 + x_55.toInt < 2147483648; omega)
              refine kV_v (rest := []) (q0 := 0) (ci := 12) hcf (m_X12_put l dC dI cI cS H.size oM mT mS mX mL mB mD m1 m2 mR x1 x2 x3 mH mY mE mW mO y1 y2 y3 y4 mZ zt zp zf zh zr zc zy za zb zs zq zw ze zn_52 zm zl zk zd eY_52 x_56 (g_zt) (g_zp) (g_zf) (g_zh) (g_zr) (g_zc) (g_zy) (g_za) (g_zb) (g_zs) (g_zq) (hf52_0) (g_zm) (g_zk) (hf52_1) (by omega) (by omega)) kc_X12_put gX12_writeLetter_X12_put rfl rfl rfl ⟨Nat.le_of_ble_eq_true rfl, Nat.le_of_ble_eq_true rfl⟩ kX_t hK hP hD hS hA [1, 2] [0] rfl (by decide +kernel) rfl rfl rfl hl rfl (Nat.le_of_ble_eq_true rfl) dX12_writeLetter_198 ⟨Nat.le_of_ble_eq_true rfl, Nat.le_of_ble_eq_true rfl⟩ (fun H locs hB hJ hSn => ?_)
              obtain ⟨zn_57, eY_57, ⟨hP1, hD1⟩, hf57_0, hf57_1, hf57_2⟩ := hB
              obtain ⟨hPn, hDn⟩ := hJ _ hP1 hD1 [(mB, .inl (cS, 131072, .inl eB)), (oM, .inr (12, [.ref mT, .int zt, .ref mS, .ref mX, .int zp, .int zf, .ref mL, .ref mB, .ref mD, .ref m1, .ref m2, .int zh, .ref mR, .int zr, .ref x1, .ref x2, .ref x3, .int zc, .ref mH, .int zy, .int za, .int zb, .int zs, .int zq, .int zw, .int ze, .ref mY, .int zn_57, .ref mE, .int zm, .int zl, .ref mW, .int zk, .ref mO, .int zd, .ref y1, .ref y2, .ref y3, .ref y4, .ref mZ])), (mY, .inl (cI, 2600, .inl eY_57))] rfl
              clear hP hD hS hJ hP1 hD1
              have hP := hPn
              have hD := hDn
              have hS := hSn
              clear hPn hDn hSn
              refine lv_iload_n hx hb dX12_writeLetter_201 rfl (lv_at hl 0 rfl) ?_
              refine lv_bipush (v := 10) hx hb dX12_writeLetter_202 (by decide) ?_
              refine lv_idiv hx hb dX12_writeLetter_204 (by decide) ?_
              refine k_i (y := 0) (by decide) ?_
              refine lv_istore_n (lv' := [(3, .int 0), (0, .ref oM), (1, .int cd), (2, .int x)]) hx hb dX12_writeLetter_205 rfl hl (by decide) rfl (fun ls hl => ?_)
              refine lv_goto (tgt := 184) hx hb dX12_writeLetter_206 (by decide) ?_
              refine lv_iload_n hx hb dX12_writeLetter_184 rfl (lv_at hl 0 rfl) ?_
              refine lv_if_le (tgt := 209) hx hb dX12_writeLetter_185 (by decide) (fun c_58 => ?_) (fun c_58 => absurd c_58 (by decide))
              refine lv_aload_n hx hb dX12_writeLetter_209 rfl (lv_at hl 1 rfl) ?_
              refine lv_bipush (v := 59) hx hb dX12_writeLetter_210 (by decide) ?_
              refine kV_v (rest := []) (q0 := 0) (ci := 12) hcf (m_X12_put l dC dI cI cS H.size oM mT mS mX mL mB mD m1 m2 mR x1 x2 x3 mH mY mE mW mO y1 y2 y3 y4 mZ zt zp zf zh zr zc zy za zb zs zq zw ze zn_57 zm zl zk zd eY_57 59 (g_zt) (g_zp) (g_zf) (g_zh) (g_zr) (g_zc) (g_zy) (g_za) (g_zb) (g_zs) (g_zq) (hf57_0) (g_zm) (g_zk) (hf57_1) (by decide) (by omega)) kc_X12_put gX12_writeLetter_X12_put rfl rfl rfl ⟨Nat.le_of_ble_eq_true rfl, Nat.le_of_ble_eq_true rfl⟩ kX_t hK hP hD hS hA [1, 2] [0] rfl (by decide +kernel) rfl rfl rfl hl rfl (Nat.le_of_ble_eq_true rfl) dX12_writeLetter_212 ⟨Nat.le_of_ble_eq_true rfl, Nat.le_of_ble_eq_true rfl⟩ (fun H locs hB hJ hSn => ?_)
              obtain ⟨zn_59, eY_59, ⟨hP1, hD1⟩, hf59_0, hf59_1, hf59_2⟩ := hB
              obtain ⟨hPn, hDn⟩ := hJ _ hP1 hD1 [(mB, .inl (cS, 131072, .inl eB)), (oM, .inr (12, [.ref mT, .int zt, .ref mS, .ref mX, .int zp, .int zf, .ref mL, .ref mB, .ref mD, .ref m1, .ref m2, .int zh, .ref mR, .int zr, .ref x1, .ref x2, .ref x3, .int zc, .ref mH, .int zy, .int za, .int zb, .int zs, .int zq, .int zw, .int ze, .ref mY, .int zn_59, .ref mE, .int zm, .int zl, .ref mW, .int zk, .ref mO, .int zd, .ref y1, .ref y2, .ref y3, .ref y4, .ref mZ])), (mY, .inl (cI, 2600, .inl eY_59))] rfl
              clear hP hD hS hJ hP1 hD1
              have hP := hPn
              have hD := hDn
              have hS := hSn
              clear hPn hDn hSn
              refine lv_goto (tgt := 244) hx hb dX12_writeLetter_215 (by decide) ?_
              refine lv_iconst (v := 1) hx hb dX12_writeLetter_244 (by decide) ?_
              exact kl_z (v := 1) hQQ hx hb hr hlocks hS dX12_writeLetter_245 (rfl) ⟨zn_59, eY_59, kPD_sub hP hD [1, 2, 0] (by decide +kernel) rfl, hf59_0, hf59_1, by decide, by show zn_59.toInt ≤ zn.toInt + 8; omega⟩
            · have tc_37 : 10 ≤ x_36.toInt := v_nlt c_37
              refine lv_iload_n hx hb dX12_writeLetter_176 rfl (lv_at hl 0 rfl) ?_
              refine lv_bipush (v := 10) hx hb dX12_writeLetter_177 (by decide) ?_
              refine lv_imul hx hb dX12_writeLetter_179 ?_
              refine k_i (y := 10000) (by decide) ?_
              refine lv_istore_n (lv' := [(3, .int 10000), (0, .ref oM), (1, .int cd), (2, .int x)]) hx hb dX12_writeLetter_180 rfl hl (by decide) rfl (fun ls hl => ?_)
              refine lv_goto (tgt := 168) hx hb dX12_writeLetter_181 (by decide) ?_
              refine lv_iload_n hx hb dX12_writeLetter_168 rfl (lv_at hl 3 rfl) ?_
              refine lv_iload_n hx hb dX12_writeLetter_169 rfl (lv_at hl 0 rfl) ?_
              refine lv_idiv hx hb dX12_writeLetter_170 (by decide) ?_
              refine lv_topi (fun x_60 ex_60 => ?_)
              have tx_60 : x_60.toInt = x.toInt / 10000 := v_div ex_60 (by omega) (by decide)
              refine lv_bipush (v := 10) hx hb dX12_writeLetter_171 (by decide) ?_
              refine lv_icmp_lt (tgt := 184) hx hb dX12_writeLetter_173 (by decide) (fun c_61 => ?_) (fun c_61 => by exfalso; have tc_61 : 10 ≤ x_60.toInt := v_nlt c_61; omega)
              have tc_61 : x_60.toInt < 10 := v_lt c_61
              refine lv_iload_n hx hb dX12_writeLetter_184 rfl (lv_at hl 0 rfl) ?_
              refine lv_if_le (tgt := 209) hx hb dX12_writeLetter_185 (by decide) (fun c_62 => absurd c_62 (by decide)) (fun c_62 => ?_)
              refine lv_aload_n hx hb dX12_writeLetter_188 rfl (lv_at hl 1 rfl) ?_
              refine lv_bipush (v := 48) hx hb dX12_writeLetter_189 (by decide) ?_
              refine lv_iload_n hx hb dX12_writeLetter_191 rfl (lv_at hl 3 rfl) ?_
              refine lv_iload_n hx hb dX12_writeLetter_192 rfl (lv_at hl 0 rfl) ?_
              refine lv_idiv hx hb dX12_writeLetter_193 (by decide) ?_
              refine lv_topi (fun x_63 ex_63 => ?_)
              have tx_63 : x_63.toInt = x.toInt / 10000 := v_div ex_63 (by omega) (by decide)
              refine lv_bipush (v := 10) hx hb dX12_writeLetter_194 (by decide) ?_
              refine lv_irem hx hb dX12_writeLetter_196 (by decide) ?_
              refine lv_topi (fun x_64 ex_64 => ?_)
              have tx_64 : x_64.toInt = x_63.toInt % 10 := v_rem ex_64 (by omega) (by decide)
              refine lv_iadd hx hb dX12_writeLetter_197 ?_
              refine lv_topi (fun x_65 ex_65 => ?_)
              have tx_65 : x_65.toInt = 48 + x_64.toInt := v_add ex_65 (by show -2147483648 ≤ 48 + x_64.toInt; omega) (by show 48 + x_64.toInt < 2147483648; omega)
              refine kV_v (rest := []) (q0 := 0) (ci := 12) hcf (m_X12_put l dC dI cI cS H.size oM mT mS mX mL mB mD m1 m2 mR x1 x2 x3 mH mY mE mW mO y1 y2 y3 y4 mZ zt zp zf zh zr zc zy za zb zs zq zw ze zn_12 zm zl zk zd eY_12 x_65 (g_zt) (g_zp) (g_zf) (g_zh) (g_zr) (g_zc) (g_zy) (g_za) (g_zb) (g_zs) (g_zq) (hf12_0) (g_zm) (g_zk) (hf12_1) (by omega) (by omega)) kc_X12_put gX12_writeLetter_X12_put rfl rfl rfl ⟨Nat.le_of_ble_eq_true rfl, Nat.le_of_ble_eq_true rfl⟩ kX_t hK hP hD hS hA [1, 2] [0] rfl (by decide +kernel) rfl rfl rfl hl rfl (Nat.le_of_ble_eq_true rfl) dX12_writeLetter_198 ⟨Nat.le_of_ble_eq_true rfl, Nat.le_of_ble_eq_true rfl⟩ (fun H locs hB hJ hSn => ?_)
              obtain ⟨zn_66, eY_66, ⟨hP1, hD1⟩, hf66_0, hf66_1, hf66_2⟩ := hB
              obtain ⟨hPn, hDn⟩ := hJ _ hP1 hD1 [(mB, .inl (cS, 131072, .inl eB)), (oM, .inr (12, [.ref mT, .int zt, .ref mS, .ref mX, .int zp, .int zf, .ref mL, .ref mB, .ref mD, .ref m1, .ref m2, .int zh, .ref mR, .int zr, .ref x1, .ref x2, .ref x3, .int zc, .ref mH, .int zy, .int za, .int zb, .int zs, .int zq, .int zw, .int ze, .ref mY, .int zn_66, .ref mE, .int zm, .int zl, .ref mW, .int zk, .ref mO, .int zd, .ref y1, .ref y2, .ref y3, .ref y4, .ref mZ])), (mY, .inl (cI, 2600, .inl eY_66))] rfl
              clear hP hD hS hJ hP1 hD1
              have hP := hPn
              have hD := hDn
              have hS := hSn
              clear hPn hDn hSn
              refine lv_iload_n hx hb dX12_writeLetter_201 rfl (lv_at hl 0 rfl) ?_
              refine lv_bipush (v := 10) hx hb dX12_writeLetter_202 (by decide) ?_
              refine lv_idiv hx hb dX12_writeLetter_204 (by decide) ?_
              refine k_i (y := 1000) (by decide) ?_
              refine lv_istore_n (lv' := [(3, .int 1000), (0, .ref oM), (1, .int cd), (2, .int x)]) hx hb dX12_writeLetter_205 rfl hl (by decide) rfl (fun ls hl => ?_)
              refine lv_goto (tgt := 184) hx hb dX12_writeLetter_206 (by decide) ?_
              refine lv_iload_n hx hb dX12_writeLetter_184 rfl (lv_at hl 0 rfl) ?_
              refine lv_if_le (tgt := 209) hx hb dX12_writeLetter_185 (by decide) (fun c_67 => absurd c_67 (by decide)) (fun c_67 => ?_)
              refine lv_aload_n hx hb dX12_writeLetter_188 rfl (lv_at hl 1 rfl) ?_
              refine lv_bipush (v := 48) hx hb dX12_writeLetter_189 (by decide) ?_
              refine lv_iload_n hx hb dX12_writeLetter_191 rfl (lv_at hl 3 rfl) ?_
              refine lv_iload_n hx hb dX12_writeLetter_192 rfl (lv_at hl 0 rfl) ?_
              refine lv_idiv hx hb dX12_writeLetter_193 (by decide) ?_
              refine lv_topi (fun x_68 ex_68 => ?_)
              have tx_68 : x_68.toInt = x.toInt / 1000 := v_div ex_68 (by omega) (by decide)
              refine lv_bipush (v := 10) hx hb dX12_writeLetter_194 (by decide) ?_
              refine lv_irem hx hb dX12_writeLetter_196 (by decide) ?_
              refine lv_topi (fun x_69 ex_69 => ?_)
              have tx_69 : x_69.toInt = x_68.toInt % 10 := v_rem ex_69 (by omega) (by decide)
              refine lv_iadd hx hb dX12_writeLetter_197 ?_
              refine lv_topi (fun x_70 ex_70 => ?_)
              have tx_70 : x_70.toInt = 48 + x_69.toInt := v_add ex_70 (by show -2147483648 ≤ 48 + x_69.toInt; omega) (by show 48 + x_69.toInt < 2147483648; omega)
              refine kV_v (rest := []) (q0 := 0) (ci := 12) hcf (m_X12_put l dC dI cI cS H.size oM mT mS mX mL mB mD m1 m2 mR x1 x2 x3 mH mY mE mW mO y1 y2 y3 y4 mZ zt zp zf zh zr zc zy za zb zs zq zw ze zn_66 zm zl zk zd eY_66 x_70 (g_zt) (g_zp) (g_zf) (g_zh) (g_zr) (g_zc) (g_zy) (g_za) (g_zb) (g_zs) (g_zq) (hf66_0) (g_zm) (g_zk) (hf66_1) (by omega) (by omega)) kc_X12_put gX12_writeLetter_X12_put rfl rfl rfl ⟨Nat.le_of_ble_eq_true rfl, Nat.le_of_ble_eq_true rfl⟩ kX_t hK hP hD hS hA [1, 2] [0] rfl (by decide +kernel) rfl rfl rfl hl rfl (Nat.le_of_ble_eq_true rfl) dX12_writeLetter_198 ⟨Nat.le_of_ble_eq_true rfl, Nat.le_of_ble_eq_true rfl⟩ (fun H locs hB hJ hSn => ?_)
              obtain ⟨zn_71, eY_71, ⟨hP1, hD1⟩, hf71_0, hf71_1, hf71_2⟩ := hB
              obtain ⟨hPn, hDn⟩ := hJ _ hP1 hD1 [(mB, .inl (cS, 131072, .inl eB)), (oM, .inr (12, [.ref mT, .int zt, .ref mS, .ref mX, .int zp, .int zf, .ref mL, .ref mB, .ref mD, .ref m1, .ref m2, .int zh, .ref mR, .int zr, .ref x1, .ref x2, .ref x3, .int zc, .ref mH, .int zy, .int za, .int zb, .int zs, .int zq, .int zw, .int ze, .ref mY, .int zn_71, .ref mE, .int zm, .int zl, .ref mW, .int zk, .ref mO, .int zd, .ref y1, .ref y2, .ref y3, .ref y4, .ref mZ])), (mY, .inl (cI, 2600, .inl eY_71))] rfl
              clear hP hD hS hJ hP1 hD1
              have hP := hPn
              have hD := hDn
              have hS := hSn
              clear hPn hDn hSn
              refine lv_iload_n hx hb dX12_writeLetter_201 rfl (lv_at hl 0 rfl) ?_
              refine lv_bipush (v := 10) hx hb dX12_writeLetter_202 (by decide) ?_
              refine lv_idiv hx hb dX12_writeLetter_204 (by decide) ?_
              refine k_i (y := 100) (by decide) ?_
              refine lv_istore_n (lv' := [(3, .int 100), (0, .ref oM), (1, .int cd), (2, .int x)]) hx hb dX12_writeLetter_205 rfl hl (by decide) rfl (fun ls hl => ?_)
              refine lv_goto (tgt := 184) hx hb dX12_writeLetter_206 (by decide) ?_
              refine lv_iload_n hx hb dX12_writeLetter_184 rfl (lv_at hl 0 rfl) ?_
              refine lv_if_le (tgt := 209) hx hb dX12_writeLetter_185 (by decide) (fun c_72 => absurd c_72 (by decide)) (fun c_72 => ?_)
              refine lv_aload_n hx hb dX12_writeLetter_188 rfl (lv_at hl 1 rfl) ?_
              refine lv_bipush (v := 48) hx hb dX12_writeLetter_189 (by decide) ?_
              refine lv_iload_n hx hb dX12_writeLetter_191 rfl (lv_at hl 3 rfl) ?_
              refine lv_iload_n hx hb dX12_writeLetter_192 rfl (lv_at hl 0 rfl) ?_
              refine lv_idiv hx hb dX12_writeLetter_193 (by decide) ?_
              refine lv_topi (fun x_73 ex_73 => ?_)
              have tx_73 : x_73.toInt = x.toInt / 100 := v_div ex_73 (by omega) (by decide)
              refine lv_bipush (v := 10) hx hb dX12_writeLetter_194 (by decide) ?_
              refine lv_irem hx hb dX12_writeLetter_196 (by decide) ?_
              refine lv_topi (fun x_74 ex_74 => ?_)
              have tx_74 : x_74.toInt = x_73.toInt % 10 := v_rem ex_74 (by omega) (by decide)
              refine lv_iadd hx hb dX12_writeLetter_197 ?_
              refine lv_topi (fun x_75 ex_75 => ?_)
              have tx_75 : x_75.toInt = 48 + x_74.toInt := v_add ex_75 (by show -2147483648 ≤ 48 + x_74.toInt; omega) (by show 48 + x_74.toInt < 2147483648; omega)
              refine kV_v (rest := []) (q0 := 0) (ci := 12) hcf (m_X12_put l dC dI cI cS H.size oM mT mS mX mL mB mD m1 m2 mR x1 x2 x3 mH mY mE mW mO y1 y2 y3 y4 mZ zt zp zf zh zr zc zy za zb zs zq zw ze zn_71 zm zl zk zd eY_71 x_75 (g_zt) (g_zp) (g_zf) (g_zh) (g_zr) (g_zc) (g_zy) (g_za) (g_zb) (g_zs) (g_zq) (hf71_0) (g_zm) (g_zk) (hf71_1) (by omega) (by omega)) kc_X12_put gX12_writeLetter_X12_put rfl rfl rfl ⟨Nat.le_of_ble_eq_true rfl, Nat.le_of_ble_eq_true rfl⟩ kX_t hK hP hD hS hA [1, 2] [0] rfl (by decide +kernel) rfl rfl rfl hl rfl (Nat.le_of_ble_eq_true rfl) dX12_writeLetter_198 ⟨Nat.le_of_ble_eq_true rfl, Nat.le_of_ble_eq_true rfl⟩ (fun H locs hB hJ hSn => ?_)
              obtain ⟨zn_76, eY_76, ⟨hP1, hD1⟩, hf76_0, hf76_1, hf76_2⟩ := hB
              obtain ⟨hPn, hDn⟩ := hJ _ hP1 hD1 [(mB, .inl (cS, 131072, .inl eB)), (oM, .inr (12, [.ref mT, .int zt, .ref mS, .ref mX, .int zp, .int zf, .ref mL, .ref mB, .ref mD, .ref m1, .ref m2, .int zh, .ref mR, .int zr, .ref x1, .ref x2, .ref x3, .int zc, .ref mH, .int zy, .int za, .int zb, .int zs, .int zq, .int zw, .int ze, .ref mY, .int zn_76, .ref mE, .int zm, .int zl, .ref mW, .int zk, .ref mO, .int zd, .ref y1, .ref y2, .ref y3, .ref y4, .ref mZ])), (mY, .inl (cI, 2600, .inl eY_76))] rfl
              clear hP hD hS hJ hP1 hD1
              have hP := hPn
              have hD := hDn
              have hS := hSn
              clear hPn hDn hSn
              refine lv_iload_n hx hb dX12_writeLetter_201 rfl (lv_at hl 0 rfl) ?_
              refine lv_bipush (v := 10) hx hb dX12_writeLetter_202 (by decide) ?_
              refine lv_idiv hx hb dX12_writeLetter_204 (by decide) ?_
              refine k_i (y := 10) (by decide) ?_
              refine lv_istore_n (lv' := [(3, .int 10), (0, .ref oM), (1, .int cd), (2, .int x)]) hx hb dX12_writeLetter_205 rfl hl (by decide) rfl (fun ls hl => ?_)
              refine lv_goto (tgt := 184) hx hb dX12_writeLetter_206 (by decide) ?_
              refine lv_iload_n hx hb dX12_writeLetter_184 rfl (lv_at hl 0 rfl) ?_
              refine lv_if_le (tgt := 209) hx hb dX12_writeLetter_185 (by decide) (fun c_77 => absurd c_77 (by decide)) (fun c_77 => ?_)
              refine lv_aload_n hx hb dX12_writeLetter_188 rfl (lv_at hl 1 rfl) ?_
              refine lv_bipush (v := 48) hx hb dX12_writeLetter_189 (by decide) ?_
              refine lv_iload_n hx hb dX12_writeLetter_191 rfl (lv_at hl 3 rfl) ?_
              refine lv_iload_n hx hb dX12_writeLetter_192 rfl (lv_at hl 0 rfl) ?_
              refine lv_idiv hx hb dX12_writeLetter_193 (by decide) ?_
              refine lv_topi (fun x_78 ex_78 => ?_)
              have tx_78 : x_78.toInt = x.toInt / 10 := v_div ex_78 (by omega) (by decide)
              refine lv_bipush (v := 10) hx hb dX12_writeLetter_194 (by decide) ?_
              refine lv_irem hx hb dX12_writeLetter_196 (by decide) ?_
              refine lv_topi (fun x_79 ex_79 => ?_)
              have tx_79 : x_79.toInt = x_78.toInt % 10 := v_rem ex_79 (by omega) (by decide)
              refine lv_iadd hx hb dX12_writeLetter_197 ?_
              refine lv_topi (fun x_80 ex_80 => ?_)
              have tx_80 : x_80.toInt = 48 + x_79.toInt := v_add ex_80 (by show -2147483648 ≤ 48 + x_79.toInt; omega) (by show 48 + x_79.toInt < 2147483648; omega)
              refine kV_v (rest := []) (q0 := 0) (ci := 12) hcf (m_X12_put l dC dI cI cS H.size oM mT mS mX mL mB mD m1 m2 mR x1 x2 x3 mH mY mE mW mO y1 y2 y3 y4 mZ zt zp zf zh zr zc zy za zb zs zq zw ze zn_76 zm zl zk zd eY_76 x_80 (g_zt) (g_zp) (g_zf) (g_zh) (g_zr) (g_zc) (g_zy) (g_za) (g_zb) (g_zs) (g_zq) (hf76_0) (g_zm) (g_zk) (hf76_1) (by omega) (by omega)) kc_X12_put gX12_writeLetter_X12_put rfl rfl rfl ⟨Nat.le_of_ble_eq_true rfl, Nat.le_of_ble_eq_true rfl⟩ kX_t hK hP hD hS hA [1, 2] [0] rfl (by decide +kernel) rfl rfl rfl hl rfl (Nat.le_of_ble_eq_true rfl) dX12_writeLetter_198 ⟨Nat.le_of_ble_eq_true rfl, Nat.le_of_ble_eq_true rfl⟩ (fun H locs hB hJ hSn => ?_)
              obtain ⟨zn_81, eY_81, ⟨hP1, hD1⟩, hf81_0, hf81_1, hf81_2⟩ := hB
              obtain ⟨hPn, hDn⟩ := hJ _ hP1 hD1 [(mB, .inl (cS, 131072, .inl eB)), (oM, .inr (12, [.ref mT, .int zt, .ref mS, .ref mX, .int zp, .int zf, .ref mL, .ref mB, .ref mD, .ref m1, .ref m2, .int zh, .ref mR, .int zr, .ref x1, .ref x2, .ref x3, .int zc, .ref mH, .int zy, .int za, .int zb, .int zs, .int zq, .int zw, .int ze, .ref mY, .int zn_81, .ref mE, .int zm, .int zl, .ref mW, .int zk, .ref mO, .int zd, .ref y1, .ref y2, .ref y3, .ref y4, .ref mZ])), (mY, .inl (cI, 2600, .inl eY_81))] rfl
              clear hP hD hS hJ hP1 hD1
              have hP := hPn
              have hD := hDn
              have hS := hSn
              clear hPn hDn hSn
              refine lv_iload_n hx hb dX12_writeLetter_201 rfl (lv_at hl 0 rfl) ?_
              refine lv_bipush (v := 10) hx hb dX12_writeLetter_202 (by decide) ?_
              refine lv_idiv hx hb dX12_writeLetter_204 (by decide) ?_
              refine k_i (y := 1) (by decide) ?_
              refine lv_istore_n (lv' := [(3, .int 1), (0, .ref oM), (1, .int cd), (2, .int x)]) hx hb dX12_writeLetter_205 rfl hl (by decide) rfl (fun ls hl => ?_)
              refine lv_goto (tgt := 184) hx hb dX12_writeLetter_206 (by decide) ?_
              refine lv_iload_n hx hb dX12_writeLetter_184 rfl (lv_at hl 0 rfl) ?_
              refine lv_if_le (tgt := 209) hx hb dX12_writeLetter_185 (by decide) (fun c_82 => absurd c_82 (by decide)) (fun c_82 => ?_)
              refine lv_aload_n hx hb dX12_writeLetter_188 rfl (lv_at hl 1 rfl) ?_
              refine lv_bipush (v := 48) hx hb dX12_writeLetter_189 (by decide) ?_
              refine lv_iload_n hx hb dX12_writeLetter_191 rfl (lv_at hl 3 rfl) ?_
              refine lv_iload_n hx hb dX12_writeLetter_192 rfl (lv_at hl 0 rfl) ?_
              refine lv_idiv hx hb dX12_writeLetter_193 (by decide) ?_
              refine lv_topi (fun x_83 ex_83 => ?_)
              have tx_83 : x_83.toInt = x.toInt / 1 := v_div ex_83 (by omega) (by decide)
              refine lv_bipush (v := 10) hx hb dX12_writeLetter_194 (by decide) ?_
              refine lv_irem hx hb dX12_writeLetter_196 (by decide) ?_
              refine lv_topi (fun x_84 ex_84 => ?_)
              have tx_84 : x_84.toInt = x_83.toInt % 10 := v_rem ex_84 (by omega) (by decide)
              refine lv_iadd hx hb dX12_writeLetter_197 ?_
              refine lv_topi (fun x_85 ex_85 => ?_)
              have tx_85 : x_85.toInt = 48 + x_84.toInt := v_add ex_85 (by show -2147483648 ≤ 48 + x_84.toInt; omega) (by show 48 + x_84.toInt < 2147483648; omega)
              refine kV_v (rest := []) (q0 := 0) (ci := 12) hcf (m_X12_put l dC dI cI cS H.size oM mT mS mX mL mB mD m1 m2 mR x1 x2 x3 mH mY mE mW mO y1 y2 y3 y4 mZ zt zp zf zh zr zc zy za zb zs zq zw ze zn_81 zm zl zk zd eY_81 x_85 (g_zt) (g_zp) (g_zf) (g_zh) (g_zr) (g_zc) (g_zy) (g_za) (g_zb) (g_zs) (g_zq) (hf81_0) (g_zm) (g_zk) (hf81_1) (by omega) (by omega)) kc_X12_put gX12_writeLetter_X12_put rfl rfl rfl ⟨Nat.le_of_ble_eq_true rfl, Nat.le_of_ble_eq_true rfl⟩ kX_t hK hP hD hS hA [1, 2] [0] rfl (by decide +kernel) rfl rfl rfl hl rfl (Nat.le_of_ble_eq_true rfl) dX12_writeLetter_198 ⟨Nat.le_of_ble_eq_true rfl, Nat.le_of_ble_eq_true rfl⟩ (fun H locs hB hJ hSn => ?_)
              obtain ⟨zn_86, eY_86, ⟨hP1, hD1⟩, hf86_0, hf86_1, hf86_2⟩ := hB
              obtain ⟨hPn, hDn⟩ := hJ _ hP1 hD1 [(mB, .inl (cS, 131072, .inl eB)), (oM, .inr (12, [.ref mT, .int zt, .ref mS, .ref mX, .int zp, .int zf, .ref mL, .ref mB, .ref mD, .ref m1, .ref m2, .int zh, .ref mR, .int zr, .ref x1, .ref x2, .ref x3, .int zc, .ref mH, .int zy, .int za, .int zb, .int zs, .int zq, .int zw, .int ze, .ref mY, .int zn_86, .ref mE, .int zm, .int zl, .ref mW, .int zk, .ref mO, .int zd, .ref y1, .ref y2, .ref y3, .ref y4, .ref mZ])), (mY, .inl (cI, 2600, .inl eY_86))] rfl
              clear hP hD hS hJ hP1 hD1
              have hP := hPn
              have hD := hDn
              have hS := hSn
              clear hPn hDn hSn
              refine lv_iload_n hx hb dX12_writeLetter_201 rfl (lv_at hl 0 rfl) ?_
              refine lv_bipush (v := 10) hx hb dX12_writeLetter_202 (by decide) ?_
              refine lv_idiv hx hb dX12_writeLetter_204 (by decide) ?_
              refine k_i (y := 0) (by decide) ?_
              refine lv_istore_n (lv' := [(3, .int 0), (0, .ref oM), (1, .int cd), (2, .int x)]) hx hb dX12_writeLetter_205 rfl hl (by decide) rfl (fun ls hl => ?_)
              refine lv_goto (tgt := 184) hx hb dX12_writeLetter_206 (by decide) ?_
              refine lv_iload_n hx hb dX12_writeLetter_184 rfl (lv_at hl 0 rfl) ?_
              refine lv_if_le (tgt := 209) hx hb dX12_writeLetter_185 (by decide) (fun c_87 => ?_) (fun c_87 => absurd c_87 (by decide))
              refine lv_aload_n hx hb dX12_writeLetter_209 rfl (lv_at hl 1 rfl) ?_
              refine lv_bipush (v := 59) hx hb dX12_writeLetter_210 (by decide) ?_
              refine kV_v (rest := []) (q0 := 0) (ci := 12) hcf (m_X12_put l dC dI cI cS H.size oM mT mS mX mL mB mD m1 m2 mR x1 x2 x3 mH mY mE mW mO y1 y2 y3 y4 mZ zt zp zf zh zr zc zy za zb zs zq zw ze zn_86 zm zl zk zd eY_86 59 (g_zt) (g_zp) (g_zf) (g_zh) (g_zr) (g_zc) (g_zy) (g_za) (g_zb) (g_zs) (g_zq) (hf86_0) (g_zm) (g_zk) (hf86_1) (by decide) (by omega)) kc_X12_put gX12_writeLetter_X12_put rfl rfl rfl ⟨Nat.le_of_ble_eq_true rfl, Nat.le_of_ble_eq_true rfl⟩ kX_t hK hP hD hS hA [1, 2] [0] rfl (by decide +kernel) rfl rfl rfl hl rfl (Nat.le_of_ble_eq_true rfl) dX12_writeLetter_212 ⟨Nat.le_of_ble_eq_true rfl, Nat.le_of_ble_eq_true rfl⟩ (fun H locs hB hJ hSn => ?_)
              obtain ⟨zn_88, eY_88, ⟨hP1, hD1⟩, hf88_0, hf88_1, hf88_2⟩ := hB
              obtain ⟨hPn, hDn⟩ := hJ _ hP1 hD1 [(mB, .inl (cS, 131072, .inl eB)), (oM, .inr (12, [.ref mT, .int zt, .ref mS, .ref mX, .int zp, .int zf, .ref mL, .ref mB, .ref mD, .ref m1, .ref m2, .int zh, .ref mR, .int zr, .ref x1, .ref x2, .ref x3, .int zc, .ref mH, .int zy, .int za, .int zb, .int zs, .int zq, .int zw, .int ze, .ref mY, .int zn_88, .ref mE, .int zm, .int zl, .ref mW, .int zk, .ref mO, .int zd, .ref y1, .ref y2, .ref y3, .ref y4, .ref mZ])), (mY, .inl (cI, 2600, .inl eY_88))] rfl
              clear hP hD hS hJ hP1 hD1
              have hP := hPn
              have hD := hDn
              have hS := hSn
              clear hPn hDn hSn
              refine lv_goto (tgt := 244) hx hb dX12_writeLetter_215 (by decide) ?_
              refine lv_iconst (v := 1) hx hb dX12_writeLetter_244 (by decide) ?_
              exact kl_z (v := 1) hQQ hx hb hr hlocks hS dX12_writeLetter_245 (rfl) ⟨zn_88, eY_88, kPD_sub hP hD [1, 2, 0] (by decide +kernel) rfl, hf88_0, hf88_1, by decide, by show zn_88.toInt ≤ zn.toInt + 8; omega⟩
        · have tc_10 : x.toInt < 128 := v_nle c_10
          refine lv_iload_n hx hb dX12_writeLetter_140 rfl (lv_at hl 2 rfl) ?_
          refine lv_bipush (v := 38) hx hb dX12_writeLetter_141 (by decide) ?_
          refine lv_icmp_eq (tgt := 154) hx hb dX12_writeLetter_143 (by decide) (fun c_89 => ?_) (fun c_89 => ?_)
          · have tc_89 : x.toInt = 38 := v_eq c_89
            refine lv_aload_n hx hb dX12_writeLetter_154 rfl (lv_at hl 0 rfl) ?_
            refine lv_bipush (v := 38) hx hb dX12_writeLetter_155 (by decide) ?_
            refine kV_v (rest := []) (q0 := 0) (ci := 12) hcf (m_X12_put l dC dI cI cS s.heap.size oM mT mS mX mL mB mD m1 m2 mR x1 x2 x3 mH mY mE mW mO y1 y2 y3 y4 mZ zt zp zf zh zr zc zy za zb zs zq zw ze zn zm zl zk zd eY 38 (g_zt) (g_zp) (g_zf) (g_zh) (g_zr) (g_zc) (g_zy) (g_za) (g_zb) (g_zs) (g_zq) (g_zn) (g_zm) (g_zk) (g_eY) (by decide) (by omega)) kc_X12_put gX12_writeLetter_X12_put rfl rfl rfl ⟨Nat.le_of_ble_eq_true rfl, Nat.le_of_ble_eq_true rfl⟩ kX_t hK hP hD hS hA [0, 1] [2] rfl (by decide +kernel) rfl rfl rfl hl rfl (Nat.le_of_ble_eq_true rfl) dX12_writeLetter_157 ⟨Nat.le_of_ble_eq_true rfl, Nat.le_of_ble_eq_true rfl⟩ (fun H locs hB hJ hSn => ?_)
            obtain ⟨zn_90, eY_90, ⟨hP1, hD1⟩, hf90_0, hf90_1, hf90_2⟩ := hB
            obtain ⟨hPn, hDn⟩ := hJ _ hP1 hD1 [(mB, .inl (cS, 131072, .inl eB)), (oM, .inr (12, [.ref mT, .int zt, .ref mS, .ref mX, .int zp, .int zf, .ref mL, .ref mB, .ref mD, .ref m1, .ref m2, .int zh, .ref mR, .int zr, .ref x1, .ref x2, .ref x3, .int zc, .ref mH, .int zy, .int za, .int zb, .int zs, .int zq, .int zw, .int ze, .ref mY, .int zn_90, .ref mE, .int zm, .int zl, .ref mW, .int zk, .ref mO, .int zd, .ref y1, .ref y2, .ref y3, .ref y4, .ref mZ])), (mY, .inl (cI, 2600, .inl eY_90))] rfl
            clear hP hD hS hJ hP1 hD1
            have hP := hPn
            have hD := hDn
            have hS := hSn
            clear hPn hDn hSn
            refine lv_aload_n hx hb dX12_writeLetter_160 rfl (lv_at hl 0 rfl) ?_
            refine lv_bipush (v := 35) hx hb dX12_writeLetter_161 (by decide) ?_
            refine kV_v (rest := []) (q0 := 0) (ci := 12) hcf (m_X12_put l dC dI cI cS H.size oM mT mS mX mL mB mD m1 m2 mR x1 x2 x3 mH mY mE mW mO y1 y2 y3 y4 mZ zt zp zf zh zr zc zy za zb zs zq zw ze zn_90 zm zl zk zd eY_90 35 (g_zt) (g_zp) (g_zf) (g_zh) (g_zr) (g_zc) (g_zy) (g_za) (g_zb) (g_zs) (g_zq) (hf90_0) (g_zm) (g_zk) (hf90_1) (by decide) (by omega)) kc_X12_put gX12_writeLetter_X12_put rfl rfl rfl ⟨Nat.le_of_ble_eq_true rfl, Nat.le_of_ble_eq_true rfl⟩ kX_t hK hP hD hS hA [1, 2] [0] rfl (by decide +kernel) rfl rfl rfl hl rfl (Nat.le_of_ble_eq_true rfl) dX12_writeLetter_163 ⟨Nat.le_of_ble_eq_true rfl, Nat.le_of_ble_eq_true rfl⟩ (fun H locs hB hJ hSn => ?_)
            obtain ⟨zn_91, eY_91, ⟨hP1, hD1⟩, hf91_0, hf91_1, hf91_2⟩ := hB
            obtain ⟨hPn, hDn⟩ := hJ _ hP1 hD1 [(mB, .inl (cS, 131072, .inl eB)), (oM, .inr (12, [.ref mT, .int zt, .ref mS, .ref mX, .int zp, .int zf, .ref mL, .ref mB, .ref mD, .ref m1, .ref m2, .int zh, .ref mR, .int zr, .ref x1, .ref x2, .ref x3, .int zc, .ref mH, .int zy, .int za, .int zb, .int zs, .int zq, .int zw, .int ze, .ref mY, .int zn_91, .ref mE, .int zm, .int zl, .ref mW, .int zk, .ref mO, .int zd, .ref y1, .ref y2, .ref y3, .ref y4, .ref mZ])), (mY, .inl (cI, 2600, .inl eY_91))] rfl
            clear hP hD hS hJ hP1 hD1
            have hP := hPn
            have hD := hDn
            have hS := hSn
            clear hPn hDn hSn
            refine lv_iconst (v := 1) hx hb dX12_writeLetter_166 (by decide) ?_
            refine lv_istore_n (lv' := [(3, .int 1), (0, .ref oM), (1, .int cd), (2, .int x)]) hx hb dX12_writeLetter_167 rfl hl (by decide) rfl (fun ls hl => ?_)
            refine lv_iload_n hx hb dX12_writeLetter_168 rfl (lv_at hl 3 rfl) ?_
            refine lv_iload_n hx hb dX12_writeLetter_169 rfl (lv_at hl 0 rfl) ?_
            refine lv_idiv hx hb dX12_writeLetter_170 (by decide) ?_
            refine lv_topi (fun x_92 ex_92 => ?_)
            have tx_92 : x_92.toInt = x.toInt / 1 := v_div ex_92 (by omega) (by decide)
            refine lv_bipush (v := 10) hx hb dX12_writeLetter_171 (by decide) ?_
            refine lv_icmp_lt (tgt := 184) hx hb dX12_writeLetter_173 (by decide) (fun c_93 => by exfalso; have tc_93 : x_92.toInt < 10 := v_lt c_93; omega) (fun c_93 => ?_)
            have tc_93 : 10 ≤ x_92.toInt := v_nlt c_93
            refine lv_iload_n hx hb dX12_writeLetter_176 rfl (lv_at hl 0 rfl) ?_
            refine lv_bipush (v := 10) hx hb dX12_writeLetter_177 (by decide) ?_
            refine lv_imul hx hb dX12_writeLetter_179 ?_
            refine k_i (y := 10) (by decide) ?_
            refine lv_istore_n (lv' := [(3, .int 10), (0, .ref oM), (1, .int cd), (2, .int x)]) hx hb dX12_writeLetter_180 rfl hl (by decide) rfl (fun ls hl => ?_)
            refine lv_goto (tgt := 168) hx hb dX12_writeLetter_181 (by decide) ?_
            refine lv_iload_n hx hb dX12_writeLetter_168 rfl (lv_at hl 3 rfl) ?_
            refine lv_iload_n hx hb dX12_writeLetter_169 rfl (lv_at hl 0 rfl) ?_
            refine lv_idiv hx hb dX12_writeLetter_170 (by decide) ?_
            refine lv_topi (fun x_94 ex_94 => ?_)
            have tx_94 : x_94.toInt = x.toInt / 10 := v_div ex_94 (by omega) (by decide)
            refine lv_bipush (v := 10) hx hb dX12_writeLetter_171 (by decide) ?_
            refine lv_icmp_lt (tgt := 184) hx hb dX12_writeLetter_173 (by decide) (fun c_95 => ?_) (fun c_95 => by exfalso; have tc_95 : 10 ≤ x_94.toInt := v_nlt c_95; omega)
            have tc_95 : x_94.toInt < 10 := v_lt c_95
            refine lv_iload_n hx hb dX12_writeLetter_184 rfl (lv_at hl 0 rfl) ?_
            refine lv_if_le (tgt := 209) hx hb dX12_writeLetter_185 (by decide) (fun c_96 => absurd c_96 (by decide)) (fun c_96 => ?_)
            refine lv_aload_n hx hb dX12_writeLetter_188 rfl (lv_at hl 1 rfl) ?_
            refine lv_bipush (v := 48) hx hb dX12_writeLetter_189 (by decide) ?_
            refine lv_iload_n hx hb dX12_writeLetter_191 rfl (lv_at hl 3 rfl) ?_
            refine lv_iload_n hx hb dX12_writeLetter_192 rfl (lv_at hl 0 rfl) ?_
            refine lv_idiv hx hb dX12_writeLetter_193 (by decide) ?_
            refine lv_topi (fun x_97 ex_97 => ?_)
            have tx_97 : x_97.toInt = x.toInt / 10 := v_div ex_97 (by omega) (by decide)
            refine lv_bipush (v := 10) hx hb dX12_writeLetter_194 (by decide) ?_
            refine lv_irem hx hb dX12_writeLetter_196 (by decide) ?_
            refine lv_topi (fun x_98 ex_98 => ?_)
            have tx_98 : x_98.toInt = x_97.toInt % 10 := v_rem ex_98 (by omega) (by decide)
            refine lv_iadd hx hb dX12_writeLetter_197 ?_
            refine lv_topi (fun x_99 ex_99 => ?_)
            have tx_99 : x_99.toInt = 48 + x_98.toInt := v_add ex_99 (by show -2147483648 ≤ 48 + x_98.toInt; omega) (by show 48 + x_98.toInt < 2147483648; omega)
            refine kV_v (rest := []) (q0 := 0) (ci := 12) hcf (m_X12_put l dC dI cI cS H.size oM mT mS mX mL mB mD m1 m2 mR x1 x2 x3 mH mY mE mW mO y1 y2 y3 y4 mZ zt zp zf zh zr zc zy za zb zs zq zw ze zn_91 zm zl zk zd eY_91 x_99 (g_zt) (g_zp) (g_zf) (g_zh) (g_zr) (g_zc) (g_zy) (g_za) (g_zb) (g_zs) (g_zq) (hf91_0) (g_zm) (g_zk) (hf91_1) (by omega) (by omega)) kc_X12_put gX12_writeLetter_X12_put rfl rfl rfl ⟨Nat.le_of_ble_eq_true rfl, Nat.le_of_ble_eq_true rfl⟩ kX_t hK hP hD hS hA [1, 2] [0] rfl (by decide +kernel) rfl rfl rfl hl rfl (Nat.le_of_ble_eq_true rfl) dX12_writeLetter_198 ⟨Nat.le_of_ble_eq_true rfl, Nat.le_of_ble_eq_true rfl⟩ (fun H locs hB hJ hSn => ?_)
            obtain ⟨zn_100, eY_100, ⟨hP1, hD1⟩, hf100_0, hf100_1, hf100_2⟩ := hB
            obtain ⟨hPn, hDn⟩ := hJ _ hP1 hD1 [(mB, .inl (cS, 131072, .inl eB)), (oM, .inr (12, [.ref mT, .int zt, .ref mS, .ref mX, .int zp, .int zf, .ref mL, .ref mB, .ref mD, .ref m1, .ref m2, .int zh, .ref mR, .int zr, .ref x1, .ref x2, .ref x3, .int zc, .ref mH, .int zy, .int za, .int zb, .int zs, .int zq, .int zw, .int ze, .ref mY, .int zn_100, .ref mE, .int zm, .int zl, .ref mW, .int zk, .ref mO, .int zd, .ref y1, .ref y2, .ref y3, .ref y4, .ref mZ])), (mY, .inl (cI, 2600, .inl eY_100))] rfl
            clear hP hD hS hJ hP1 hD1
            have hP := hPn
            have hD := hDn
            have hS := hSn
            clear hPn hDn hSn
            refine lv_iload_n hx hb dX12_writeLetter_201 rfl (lv_at hl 0 rfl) ?_
            refine lv_bipush (v := 10) hx hb dX12_writeLetter_202 (by decide) ?_
            refine lv_idiv hx hb dX12_writeLetter_204 (by decide) ?_
            refine k_i (y := 1) (by decide) ?_
            refine lv_istore_n (lv' := [(3, .int 1), (0, .ref oM), (1, .int cd), (2, .int x)]) hx hb dX12_writeLetter_205 rfl hl (by decide) rfl (fun ls hl => ?_)
            refine lv_goto (tgt := 184) hx hb dX12_writeLetter_206 (by decide) ?_
            refine lv_iload_n hx hb dX12_writeLetter_184 rfl (lv_at hl 0 rfl) ?_
            refine lv_if_le (tgt := 209) hx hb dX12_writeLetter_185 (by decide) (fun c_101 => absurd c_101 (by decide)) (fun c_101 => ?_)
            refine lv_aload_n hx hb dX12_writeLetter_188 rfl (lv_at hl 1 rfl) ?_
            refine lv_bipush (v := 48) hx hb dX12_writeLetter_189 (by decide) ?_
            refine lv_iload_n hx hb dX12_writeLetter_191 rfl (lv_at hl 3 rfl) ?_
            refine lv_iload_n hx hb dX12_writeLetter_192 rfl (lv_at hl 0 rfl) ?_
            refine lv_idiv hx hb dX12_writeLetter_193 (by decide) ?_
            refine lv_topi (fun x_102 ex_102 => ?_)
            have tx_102 : x_102.toInt = x.toInt / 1 := v_div ex_102 (by omega) (by decide)
            refine lv_bipush (v := 10) hx hb dX12_writeLetter_194 (by decide) ?_
            refine lv_irem hx hb dX12_writeLetter_196 (by decide) ?_
            refine lv_topi (fun x_103 ex_103 => ?_)
            have tx_103 : x_103.toInt = x_102.toInt % 10 := v_rem ex_103 (by omega) (by decide)
            refine lv_iadd hx hb dX12_writeLetter_197 ?_
            refine lv_topi (fun x_104 ex_104 => ?_)
            have tx_104 : x_104.toInt = 48 + x_103.toInt := v_add ex_104 (by show -2147483648 ≤ 48 + x_103.toInt; omega) (by show 48 + x_103.toInt < 2147483648; omega)
            refine kV_v (rest := []) (q0 := 0) (ci := 12) hcf (m_X12_put l dC dI cI cS H.size oM mT mS mX mL mB mD m1 m2 mR x1 x2 x3 mH mY mE mW mO y1 y2 y3 y4 mZ zt zp zf zh zr zc zy za zb zs zq zw ze zn_100 zm zl zk zd eY_100 x_104 (g_zt) (g_zp) (g_zf) (g_zh) (g_zr) (g_zc) (g_zy) (g_za) (g_zb) (g_zs) (g_zq) (hf100_0) (g_zm) (g_zk) (hf100_1) (by omega) (by omega)) kc_X12_put gX12_writeLetter_X12_put rfl rfl rfl ⟨Nat.le_of_ble_eq_true rfl, Nat.le_of_ble_eq_true rfl⟩ kX_t hK hP hD hS hA [1, 2] [0] rfl (by decide +kernel) rfl rfl rfl hl rfl (Nat.le_of_ble_eq_true rfl) dX12_writeLetter_198 ⟨Nat.le_of_ble_eq_true rfl, Nat.le_of_ble_eq_true rfl⟩ (fun H locs hB hJ hSn => ?_)
            obtain ⟨zn_105, eY_105, ⟨hP1, hD1⟩, hf105_0, hf105_1, hf105_2⟩ := hB
            obtain ⟨hPn, hDn⟩ := hJ _ hP1 hD1 [(mB, .inl (cS, 131072, .inl eB)), (oM, .inr (12, [.ref mT, .int zt, .ref mS, .ref mX, .int zp, .int zf, .ref mL, .ref mB, .ref mD, .ref m1, .ref m2, .int zh, .ref mR, .int zr, .ref x1, .ref x2, .ref x3, .int zc, .ref mH, .int zy, .int za, .int zb, .int zs, .int zq, .int zw, .int ze, .ref mY, .int zn_105, .ref mE, .int zm, .int zl, .ref mW, .int zk, .ref mO, .int zd, .ref y1, .ref y2, .ref y3, .ref y4, .ref mZ])), (mY, .inl (cI, 2600, .inl eY_105))] rfl
            clear hP hD hS hJ hP1 hD1
            have hP := hPn
            have hD := hDn
            have hS := hSn
            clear hPn hDn hSn
            refine lv_iload_n hx hb dX12_writeLetter_201 rfl (lv_at hl 0 rfl) ?_
            refine lv_bipush (v := 10) hx hb dX12_writeLetter_202 (by decide) ?_
            refine lv_idiv hx hb dX12_writeLetter_204 (by decide) ?_
            refine k_i (y := 0) (by decide) ?_
            refine lv_istore_n (lv' := [(3, .int 0), (0, .ref oM), (1, .int cd), (2, .int x)]) hx hb dX12_writeLetter_205 rfl hl (by decide) rfl (fun ls hl => ?_)
            refine lv_goto (tgt := 184) hx hb dX12_writeLetter_206 (by decide) ?_
            refine lv_iload_n hx hb dX12_writeLetter_184 rfl (lv_at hl 0 rfl) ?_
            refine lv_if_le (tgt := 209) hx hb dX12_writeLetter_185 (by decide) (fun c_106 => ?_) (fun c_106 => absurd c_106 (by decide))
            refine lv_aload_n hx hb dX12_writeLetter_209 rfl (lv_at hl 1 rfl) ?_
            refine lv_bipush (v := 59) hx hb dX12_writeLetter_210 (by decide) ?_
            refine kV_v (rest := []) (q0 := 0) (ci := 12) hcf (m_X12_put l dC dI cI cS H.size oM mT mS mX mL mB mD m1 m2 mR x1 x2 x3 mH mY mE mW mO y1 y2 y3 y4 mZ zt zp zf zh zr zc zy za zb zs zq zw ze zn_105 zm zl zk zd eY_105 59 (g_zt) (g_zp) (g_zf) (g_zh) (g_zr) (g_zc) (g_zy) (g_za) (g_zb) (g_zs) (g_zq) (hf105_0) (g_zm) (g_zk) (hf105_1) (by decide) (by omega)) kc_X12_put gX12_writeLetter_X12_put rfl rfl rfl ⟨Nat.le_of_ble_eq_true rfl, Nat.le_of_ble_eq_true rfl⟩ kX_t hK hP hD hS hA [1, 2] [0] rfl (by decide +kernel) rfl rfl rfl hl rfl (Nat.le_of_ble_eq_true rfl) dX12_writeLetter_212 ⟨Nat.le_of_ble_eq_true rfl, Nat.le_of_ble_eq_true rfl⟩ (fun H locs hB hJ hSn => ?_)
            obtain ⟨zn_107, eY_107, ⟨hP1, hD1⟩, hf107_0, hf107_1, hf107_2⟩ := hB
            obtain ⟨hPn, hDn⟩ := hJ _ hP1 hD1 [(mB, .inl (cS, 131072, .inl eB)), (oM, .inr (12, [.ref mT, .int zt, .ref mS, .ref mX, .int zp, .int zf, .ref mL, .ref mB, .ref mD, .ref m1, .ref m2, .int zh, .ref mR, .int zr, .ref x1, .ref x2, .ref x3, .int zc, .ref mH, .int zy, .int za, .int zb, .int zs, .int zq, .int zw, .int ze, .ref mY, .int zn_107, .ref mE, .int zm, .int zl, .ref mW, .int zk, .ref mO, .int zd, .ref y1, .ref y2, .ref y3, .ref y4, .ref mZ])), (mY, .inl (cI, 2600, .inl eY_107))] rfl
            clear hP hD hS hJ hP1 hD1
            have hP := hPn
            have hD := hDn
            have hS := hSn
            clear hPn hDn hSn
            refine lv_goto (tgt := 244) hx hb dX12_writeLetter_215 (by decide) ?_
            refine lv_iconst (v := 1) hx hb dX12_writeLetter_244 (by decide) ?_
            exact kl_z (v := 1) hQQ hx hb hr hlocks hS dX12_writeLetter_245 (rfl) ⟨zn_107, eY_107, kPD_sub hP hD [1, 2, 0] (by decide +kernel) rfl, hf107_0, hf107_1, by decide, by show zn_107.toInt ≤ zn.toInt + 8; omega⟩
          · have tc_89 : ¬ x.toInt = 38 := v_ne c_89
            refine lv_aload_n hx hb dX12_writeLetter_146 rfl (lv_at hl 0 rfl) ?_
            refine lv_iload_n hx hb dX12_writeLetter_147 rfl (lv_at hl 2 rfl) ?_
            refine kV_v (rest := []) (q0 := 0) (ci := 12) hcf (m_X12_put l dC dI cI cS s.heap.size oM mT mS mX mL mB mD m1 m2 mR x1 x2 x3 mH mY mE mW mO y1 y2 y3 y4 mZ zt zp zf zh zr zc zy za zb zs zq zw ze zn zm zl zk zd eY x (g_zt) (g_zp) (g_zf) (g_zh) (g_zr) (g_zc) (g_zy) (g_za) (g_zb) (g_zs) (g_zq) (g_zn) (g_zm) (g_zk) (g_eY) (by omega) (by omega)) kc_X12_put gX12_writeLetter_X12_put rfl rfl rfl ⟨Nat.le_of_ble_eq_true rfl, Nat.le_of_ble_eq_true rfl⟩ kX_t hK hP hD hS hA [0, 1] [2] rfl (by decide +kernel) rfl rfl rfl hl rfl (Nat.le_of_ble_eq_true rfl) dX12_writeLetter_148 ⟨Nat.le_of_ble_eq_true rfl, Nat.le_of_ble_eq_true rfl⟩ (fun H locs hB hJ hSn => ?_)
            obtain ⟨zn_108, eY_108, ⟨hP1, hD1⟩, hf108_0, hf108_1, hf108_2⟩ := hB
            obtain ⟨hPn, hDn⟩ := hJ _ hP1 hD1 [(mB, .inl (cS, 131072, .inl eB)), (oM, .inr (12, [.ref mT, .int zt, .ref mS, .ref mX, .int zp, .int zf, .ref mL, .ref mB, .ref mD, .ref m1, .ref m2, .int zh, .ref mR, .int zr, .ref x1, .ref x2, .ref x3, .int zc, .ref mH, .int zy, .int za, .int zb, .int zs, .int zq, .int zw, .int ze, .ref mY, .int zn_108, .ref mE, .int zm, .int zl, .ref mW, .int zk, .ref mO, .int zd, .ref y1, .ref y2, .ref y3, .ref y4, .ref mZ])), (mY, .inl (cI, 2600, .inl eY_108))] rfl
            clear hP hD hS hJ hP1 hD1
            have hP := hPn
            have hD := hDn
            have hS := hSn
            clear hPn hDn hSn
            refine lv_goto (tgt := 244) hx hb dX12_writeLetter_151 (by decide) ?_
            refine lv_iconst (v := 1) hx hb dX12_writeLetter_244 (by decide) ?_
            exact kl_z (v := 1) hQQ hx hb hr hlocks hS dX12_writeLetter_245 (rfl) ⟨zn_108, eY_108, kPD_sub hP hD [1, 2, 0] (by decide +kernel) rfl, hf108_0, hf108_1, by decide, by show zn_108.toInt ≤ zn.toInt + 8; omega⟩
    · have tc_2 : cd.toInt = 2 := v_eq c_2
      refine lv_iload_n hx hb dX12_writeLetter_36 rfl (lv_at hl 2 rfl) ?_
      refine lv_sipush (v := 128) hx hb dX12_writeLetter_37 (by decide) ?_
      refine lv_icmp_ge (tgt := 51) hx hb dX12_writeLetter_40 (by decide) (fun c_109 => ?_) (fun c_109 => ?_)
      · have tc_109 : 128 ≤ x.toInt := v_le c_109
        refine lv_iload_n hx hb dX12_writeLetter_51 rfl (lv_at hl 2 rfl) ?_
        refine lv_sipush (v := 2048) hx hb dX12_writeLetter_52 (by decide) ?_
        refine lv_icmp_ge (tgt := 85) hx hb dX12_writeLetter_55 (by decide) (fun c_110 => ?_) (fun c_110 => ?_)
        · have tc_110 : 2048 ≤ x.toInt := v_le c_110
          refine lv_aload_n hx hb dX12_writeLetter_85 rfl (lv_at hl 0 rfl) ?_
          refine lv_sipush (v := 224) hx hb dX12_writeLetter_86 (by decide) ?_
          refine lv_iload_n hx hb dX12_writeLetter_89 rfl (lv_at hl 2 rfl) ?_
          refine lv_sipush (v := 4096) hx hb dX12_writeLetter_90 (by decide) ?_
          refine lv_idiv hx hb dX12_writeLetter_93 (by decide) ?_
          refine lv_topi (fun x_111 ex_111 => ?_)
          have tx_111 : x_111.toInt = x.toInt / 4096 := v_div ex_111 (by omega) (by decide)
          refine lv_iadd hx hb dX12_writeLetter_94 ?_
          refine lv_topi (fun x_112 ex_112 => ?_)
          have tx_112 : x_112.toInt = 224 + x_111.toInt := v_add ex_112 (by show -2147483648 ≤ 224 + x_111.toInt; omega) (by show 224 + x_111.toInt < 2147483648; omega)
          refine kV_v (rest := []) (q0 := 0) (ci := 12) hcf (m_X12_put l dC dI cI cS s.heap.size oM mT mS mX mL mB mD m1 m2 mR x1 x2 x3 mH mY mE mW mO y1 y2 y3 y4 mZ zt zp zf zh zr zc zy za zb zs zq zw ze zn zm zl zk zd eY x_112 (g_zt) (g_zp) (g_zf) (g_zh) (g_zr) (g_zc) (g_zy) (g_za) (g_zb) (g_zs) (g_zq) (g_zn) (g_zm) (g_zk) (g_eY) (by omega) (by omega)) kc_X12_put gX12_writeLetter_X12_put rfl rfl rfl ⟨Nat.le_of_ble_eq_true rfl, Nat.le_of_ble_eq_true rfl⟩ kX_t hK hP hD hS hA [0, 1] [2] rfl (by decide +kernel) rfl rfl rfl hl rfl (Nat.le_of_ble_eq_true rfl) dX12_writeLetter_95 ⟨Nat.le_of_ble_eq_true rfl, Nat.le_of_ble_eq_true rfl⟩ (fun H locs hB hJ hSn => ?_)
          obtain ⟨zn_113, eY_113, ⟨hP1, hD1⟩, hf113_0, hf113_1, hf113_2⟩ := hB
          obtain ⟨hPn, hDn⟩ := hJ _ hP1 hD1 [(mB, .inl (cS, 131072, .inl eB)), (oM, .inr (12, [.ref mT, .int zt, .ref mS, .ref mX, .int zp, .int zf, .ref mL, .ref mB, .ref mD, .ref m1, .ref m2, .int zh, .ref mR, .int zr, .ref x1, .ref x2, .ref x3, .int zc, .ref mH, .int zy, .int za, .int zb, .int zs, .int zq, .int zw, .int ze, .ref mY, .int zn_113, .ref mE, .int zm, .int zl, .ref mW, .int zk, .ref mO, .int zd, .ref y1, .ref y2, .ref y3, .ref y4, .ref mZ])), (mY, .inl (cI, 2600, .inl eY_113))] rfl
          clear hP hD hS hJ hP1 hD1
          have hP := hPn
          have hD := hDn
          have hS := hSn
          clear hPn hDn hSn
          refine lv_aload_n hx hb dX12_writeLetter_98 rfl (lv_at hl 0 rfl) ?_
          refine lv_sipush (v := 128) hx hb dX12_writeLetter_99 (by decide) ?_
          refine lv_iload_n hx hb dX12_writeLetter_102 rfl (lv_at hl 2 rfl) ?_
          refine lv_bipush (v := 64) hx hb dX12_writeLetter_103 (by decide) ?_
          refine lv_idiv hx hb dX12_writeLetter_105 (by decide) ?_
          refine lv_topi (fun x_114 ex_114 => ?_)
          have tx_114 : x_114.toInt = x.toInt / 64 := v_div ex_114 (by omega) (by decide)
          refine lv_bipush (v := 64) hx hb dX12_writeLetter_106 (by decide) ?_
          refine lv_irem hx hb dX12_writeLetter_108 (by decide) ?_
          refine lv_topi (fun x_115 ex_115 => ?_)
          have tx_115 : x_115.toInt = x_114.toInt % 64 := v_rem ex_115 (by omega) (by decide)
          refine lv_iadd hx hb dX12_writeLetter_109 ?_
          refine lv_topi (fun x_116 ex_116 => ?_)
          have tx_116 : x_116.toInt = 128 + x_115.toInt := v_add ex_116 (by show -2147483648 ≤ 128 + x_115.toInt; omega) (by show 128 + x_115.toInt < 2147483648; omega)
          refine kV_v (rest := []) (q0 := 0) (ci := 12) hcf (m_X12_put l dC dI cI cS H.size oM mT mS mX mL mB mD m1 m2 mR x1 x2 x3 mH mY mE mW mO y1 y2 y3 y4 mZ zt zp zf zh zr zc zy za zb zs zq zw ze zn_113 zm zl zk zd eY_113 x_116 (g_zt) (g_zp) (g_zf) (g_zh) (g_zr) (g_zc) (g_zy) (g_za) (g_zb) (g_zs) (g_zq) (hf113_0) (g_zm) (g_zk) (hf113_1) (by omega) (by omega)) kc_X12_put gX12_writeLetter_X12_put rfl rfl rfl ⟨Nat.le_of_ble_eq_true rfl, Nat.le_of_ble_eq_true rfl⟩ kX_t hK hP hD hS hA [1, 2] [0] rfl (by decide +kernel) rfl rfl rfl hl rfl (Nat.le_of_ble_eq_true rfl) dX12_writeLetter_110 ⟨Nat.le_of_ble_eq_true rfl, Nat.le_of_ble_eq_true rfl⟩ (fun H locs hB hJ hSn => ?_)
          obtain ⟨zn_117, eY_117, ⟨hP1, hD1⟩, hf117_0, hf117_1, hf117_2⟩ := hB
          obtain ⟨hPn, hDn⟩ := hJ _ hP1 hD1 [(mB, .inl (cS, 131072, .inl eB)), (oM, .inr (12, [.ref mT, .int zt, .ref mS, .ref mX, .int zp, .int zf, .ref mL, .ref mB, .ref mD, .ref m1, .ref m2, .int zh, .ref mR, .int zr, .ref x1, .ref x2, .ref x3, .int zc, .ref mH, .int zy, .int za, .int zb, .int zs, .int zq, .int zw, .int ze, .ref mY, .int zn_117, .ref mE, .int zm, .int zl, .ref mW, .int zk, .ref mO, .int zd, .ref y1, .ref y2, .ref y3, .ref y4, .ref mZ])), (mY, .inl (cI, 2600, .inl eY_117))] rfl
          clear hP hD hS hJ hP1 hD1
          have hP := hPn
          have hD := hDn
          have hS := hSn
          clear hPn hDn hSn
          refine lv_aload_n hx hb dX12_writeLetter_113 rfl (lv_at hl 0 rfl) ?_
          refine lv_sipush (v := 128) hx hb dX12_writeLetter_114 (by decide) ?_
          refine lv_iload_n hx hb dX12_writeLetter_117 rfl (lv_at hl 2 rfl) ?_
          refine lv_bipush (v := 64) hx hb dX12_writeLetter_118 (by decide) ?_
          refine lv_irem hx hb dX12_writeLetter_120 (by decide) ?_
          refine lv_topi (fun x_118 ex_118 => ?_)
          have tx_118 : x_118.toInt = x.toInt % 64 := v_rem ex_118 (by omega) (by decide)
          refine lv_iadd hx hb dX12_writeLetter_121 ?_
          refine lv_topi (fun x_119 ex_119 => ?_)
          have tx_119 : x_119.toInt = 128 + x_118.toInt := v_add ex_119 (by show -2147483648 ≤ 128 + x_118.toInt; omega) (by show 128 + x_118.toInt < 2147483648; omega)
          refine kV_v (rest := []) (q0 := 0) (ci := 12) hcf (m_X12_put l dC dI cI cS H.size oM mT mS mX mL mB mD m1 m2 mR x1 x2 x3 mH mY mE mW mO y1 y2 y3 y4 mZ zt zp zf zh zr zc zy za zb zs zq zw ze zn_117 zm zl zk zd eY_117 x_119 (g_zt) (g_zp) (g_zf) (g_zh) (g_zr) (g_zc) (g_zy) (g_za) (g_zb) (g_zs) (g_zq) (hf117_0) (g_zm) (g_zk) (hf117_1) (by omega) (by omega)) kc_X12_put gX12_writeLetter_X12_put rfl rfl rfl ⟨Nat.le_of_ble_eq_true rfl, Nat.le_of_ble_eq_true rfl⟩ kX_t hK hP hD hS hA [1, 2] [0] rfl (by decide +kernel) rfl rfl rfl hl rfl (Nat.le_of_ble_eq_true rfl) dX12_writeLetter_122 ⟨Nat.le_of_ble_eq_true rfl, Nat.le_of_ble_eq_true rfl⟩ (fun H locs hB hJ hSn => ?_)
          obtain ⟨zn_120, eY_120, ⟨hP1, hD1⟩, hf120_0, hf120_1, hf120_2⟩ := hB
          obtain ⟨hPn, hDn⟩ := hJ _ hP1 hD1 [(mB, .inl (cS, 131072, .inl eB)), (oM, .inr (12, [.ref mT, .int zt, .ref mS, .ref mX, .int zp, .int zf, .ref mL, .ref mB, .ref mD, .ref m1, .ref m2, .int zh, .ref mR, .int zr, .ref x1, .ref x2, .ref x3, .int zc, .ref mH, .int zy, .int za, .int zb, .int zs, .int zq, .int zw, .int ze, .ref mY, .int zn_120, .ref mE, .int zm, .int zl, .ref mW, .int zk, .ref mO, .int zd, .ref y1, .ref y2, .ref y3, .ref y4, .ref mZ])), (mY, .inl (cI, 2600, .inl eY_120))] rfl
          clear hP hD hS hJ hP1 hD1
          have hP := hPn
          have hD := hDn
          have hS := hSn
          clear hPn hDn hSn
          refine lv_goto (tgt := 244) hx hb dX12_writeLetter_125 (by decide) ?_
          refine lv_iconst (v := 1) hx hb dX12_writeLetter_244 (by decide) ?_
          exact kl_z (v := 1) hQQ hx hb hr hlocks hS dX12_writeLetter_245 (rfl) ⟨zn_120, eY_120, kPD_sub hP hD [1, 2, 0] (by decide +kernel) rfl, hf120_0, hf120_1, by decide, by show zn_120.toInt ≤ zn.toInt + 8; omega⟩
        · have tc_110 : x.toInt < 2048 := v_nle c_110
          refine lv_aload_n hx hb dX12_writeLetter_58 rfl (lv_at hl 0 rfl) ?_
          refine lv_sipush (v := 192) hx hb dX12_writeLetter_59 (by decide) ?_
          refine lv_iload_n hx hb dX12_writeLetter_62 rfl (lv_at hl 2 rfl) ?_
          refine lv_bipush (v := 64) hx hb dX12_writeLetter_63 (by decide) ?_
          refine lv_idiv hx hb dX12_writeLetter_65 (by decide) ?_
          refine lv_topi (fun x_121 ex_121 => ?_)
          have tx_121 : x_121.toInt = x.toInt / 64 := v_div ex_121 (by omega) (by decide)
          refine lv_iadd hx hb dX12_writeLetter_66 ?_
          refine lv_topi (fun x_122 ex_122 => ?_)
          have tx_122 : x_122.toInt = 192 + x_121.toInt := v_add ex_122 (by show -2147483648 ≤ 192 + x_121.toInt; omega) (by show 192 + x_121.toInt < 2147483648; omega)
          refine kV_v (rest := []) (q0 := 0) (ci := 12) hcf (m_X12_put l dC dI cI cS s.heap.size oM mT mS mX mL mB mD m1 m2 mR x1 x2 x3 mH mY mE mW mO y1 y2 y3 y4 mZ zt zp zf zh zr zc zy za zb zs zq zw ze zn zm zl zk zd eY x_122 (g_zt) (g_zp) (g_zf) (g_zh) (g_zr) (g_zc) (g_zy) (g_za) (g_zb) (g_zs) (g_zq) (g_zn) (g_zm) (g_zk) (g_eY) (by omega) (by omega)) kc_X12_put gX12_writeLetter_X12_put rfl rfl rfl ⟨Nat.le_of_ble_eq_true rfl, Nat.le_of_ble_eq_true rfl⟩ kX_t hK hP hD hS hA [0, 1] [2] rfl (by decide +kernel) rfl rfl rfl hl rfl (Nat.le_of_ble_eq_true rfl) dX12_writeLetter_67 ⟨Nat.le_of_ble_eq_true rfl, Nat.le_of_ble_eq_true rfl⟩ (fun H locs hB hJ hSn => ?_)
          obtain ⟨zn_123, eY_123, ⟨hP1, hD1⟩, hf123_0, hf123_1, hf123_2⟩ := hB
          obtain ⟨hPn, hDn⟩ := hJ _ hP1 hD1 [(mB, .inl (cS, 131072, .inl eB)), (oM, .inr (12, [.ref mT, .int zt, .ref mS, .ref mX, .int zp, .int zf, .ref mL, .ref mB, .ref mD, .ref m1, .ref m2, .int zh, .ref mR, .int zr, .ref x1, .ref x2, .ref x3, .int zc, .ref mH, .int zy, .int za, .int zb, .int zs, .int zq, .int zw, .int ze, .ref mY, .int zn_123, .ref mE, .int zm, .int zl, .ref mW, .int zk, .ref mO, .int zd, .ref y1, .ref y2, .ref y3, .ref y4, .ref mZ])), (mY, .inl (cI, 2600, .inl eY_123))] rfl
          clear hP hD hS hJ hP1 hD1
          have hP := hPn
          have hD := hDn
          have hS := hSn
          clear hPn hDn hSn
          refine lv_aload_n hx hb dX12_writeLetter_70 rfl (lv_at hl 0 rfl) ?_
          refine lv_sipush (v := 128) hx hb dX12_writeLetter_71 (by decide) ?_
          refine lv_iload_n hx hb dX12_writeLetter_74 rfl (lv_at hl 2 rfl) ?_
          refine lv_bipush (v := 64) hx hb dX12_writeLetter_75 (by decide) ?_
          refine lv_irem hx hb dX12_writeLetter_77 (by decide) ?_
          refine lv_topi (fun x_124 ex_124 => ?_)
          have tx_124 : x_124.toInt = x.toInt % 64 := v_rem ex_124 (by omega) (by decide)
          refine lv_iadd hx hb dX12_writeLetter_78 ?_
          refine lv_topi (fun x_125 ex_125 => ?_)
          have tx_125 : x_125.toInt = 128 + x_124.toInt := v_add ex_125 (by show -2147483648 ≤ 128 + x_124.toInt; omega) (by show 128 + x_124.toInt < 2147483648; omega)
          refine kV_v (rest := []) (q0 := 0) (ci := 12) hcf (m_X12_put l dC dI cI cS H.size oM mT mS mX mL mB mD m1 m2 mR x1 x2 x3 mH mY mE mW mO y1 y2 y3 y4 mZ zt zp zf zh zr zc zy za zb zs zq zw ze zn_123 zm zl zk zd eY_123 x_125 (g_zt) (g_zp) (g_zf) (g_zh) (g_zr) (g_zc) (g_zy) (g_za) (g_zb) (g_zs) (g_zq) (hf123_0) (g_zm) (g_zk) (hf123_1) (by omega) (by omega)) kc_X12_put gX12_writeLetter_X12_put rfl rfl rfl ⟨Nat.le_of_ble_eq_true rfl, Nat.le_of_ble_eq_true rfl⟩ kX_t hK hP hD hS hA [1, 2] [0] rfl (by decide +kernel) rfl rfl rfl hl rfl (Nat.le_of_ble_eq_true rfl) dX12_writeLetter_79 ⟨Nat.le_of_ble_eq_true rfl, Nat.le_of_ble_eq_true rfl⟩ (fun H locs hB hJ hSn => ?_)
          obtain ⟨zn_126, eY_126, ⟨hP1, hD1⟩, hf126_0, hf126_1, hf126_2⟩ := hB
          obtain ⟨hPn, hDn⟩ := hJ _ hP1 hD1 [(mB, .inl (cS, 131072, .inl eB)), (oM, .inr (12, [.ref mT, .int zt, .ref mS, .ref mX, .int zp, .int zf, .ref mL, .ref mB, .ref mD, .ref m1, .ref m2, .int zh, .ref mR, .int zr, .ref x1, .ref x2, .ref x3, .int zc, .ref mH, .int zy, .int za, .int zb, .int zs, .int zq, .int zw, .int ze, .ref mY, .int zn_126, .ref mE, .int zm, .int zl, .ref mW, .int zk, .ref mO, .int zd, .ref y1, .ref y2, .ref y3, .ref y4, .ref mZ])), (mY, .inl (cI, 2600, .inl eY_126))] rfl
          clear hP hD hS hJ hP1 hD1
          have hP := hPn
          have hD := hDn
          have hS := hSn
          clear hPn hDn hSn
          refine lv_goto (tgt := 244) hx hb dX12_writeLetter_82 (by decide) ?_
          refine lv_iconst (v := 1) hx hb dX12_writeLetter_244 (by decide) ?_
          exact kl_z (v := 1) hQQ hx hb hr hlocks hS dX12_writeLetter_245 (rfl) ⟨zn_126, eY_126, kPD_sub hP hD [1, 2, 0] (by decide +kernel) rfl, hf126_0, hf126_1, by decide, by show zn_126.toInt ≤ zn.toInt + 8; omega⟩
      · have tc_109 : x.toInt < 128 := v_nle c_109
        refine lv_aload_n hx hb dX12_writeLetter_43 rfl (lv_at hl 0 rfl) ?_
        refine lv_iload_n hx hb dX12_writeLetter_44 rfl (lv_at hl 2 rfl) ?_
        refine kV_v (rest := []) (q0 := 0) (ci := 12) hcf (m_X12_put l dC dI cI cS s.heap.size oM mT mS mX mL mB mD m1 m2 mR x1 x2 x3 mH mY mE mW mO y1 y2 y3 y4 mZ zt zp zf zh zr zc zy za zb zs zq zw ze zn zm zl zk zd eY x (g_zt) (g_zp) (g_zf) (g_zh) (g_zr) (g_zc) (g_zy) (g_za) (g_zb) (g_zs) (g_zq) (g_zn) (g_zm) (g_zk) (g_eY) (by omega) (by omega)) kc_X12_put gX12_writeLetter_X12_put rfl rfl rfl ⟨Nat.le_of_ble_eq_true rfl, Nat.le_of_ble_eq_true rfl⟩ kX_t hK hP hD hS hA [0, 1] [2] rfl (by decide +kernel) rfl rfl rfl hl rfl (Nat.le_of_ble_eq_true rfl) dX12_writeLetter_45 ⟨Nat.le_of_ble_eq_true rfl, Nat.le_of_ble_eq_true rfl⟩ (fun H locs hB hJ hSn => ?_)
        obtain ⟨zn_127, eY_127, ⟨hP1, hD1⟩, hf127_0, hf127_1, hf127_2⟩ := hB
        obtain ⟨hPn, hDn⟩ := hJ _ hP1 hD1 [(mB, .inl (cS, 131072, .inl eB)), (oM, .inr (12, [.ref mT, .int zt, .ref mS, .ref mX, .int zp, .int zf, .ref mL, .ref mB, .ref mD, .ref m1, .ref m2, .int zh, .ref mR, .int zr, .ref x1, .ref x2, .ref x3, .int zc, .ref mH, .int zy, .int za, .int zb, .int zs, .int zq, .int zw, .int ze, .ref mY, .int zn_127, .ref mE, .int zm, .int zl, .ref mW, .int zk, .ref mO, .int zd, .ref y1, .ref y2, .ref y3, .ref y4, .ref mZ])), (mY, .inl (cI, 2600, .inl eY_127))] rfl
        clear hP hD hS hJ hP1 hD1
        have hP := hPn
        have hD := hDn
        have hS := hSn
        clear hPn hDn hSn
        refine lv_goto (tgt := 244) hx hb dX12_writeLetter_48 (by decide) ?_
        refine lv_iconst (v := 1) hx hb dX12_writeLetter_244 (by decide) ?_
        exact kl_z (v := 1) hQQ hx hb hr hlocks hS dX12_writeLetter_245 (rfl) ⟨zn_127, eY_127, kPD_sub hP hD [1, 2, 0] (by decide +kernel) rfl, hf127_0, hf127_1, by decide, by show zn_127.toInt ≤ zn.toInt + 8; omega⟩
  · have tc_1 : cd.toInt < 2 := v_nle c_1
    refine lv_iload_n hx hb dX12_writeLetter_5 rfl (lv_at hl 2 rfl) ?_
    refine lv_iload_n hx hb dX12_writeLetter_6 rfl (lv_at hl 1 rfl) ?_
    refine lv_if_ne (tgt := 15) hx hb dX12_writeLetter_7 (by decide) (fun c_128 => ?_) (fun c_128 => ?_)
    · have tc_128 : ¬ cd.toInt = 0 := v_ne c_128
      refine lv_sipush (v := 255) hx hb dX12_writeLetter_15 (by decide) ?_
      refine lv_icmp_le (tgt := 23) hx hb dX12_writeLetter_18 (by decide) (fun c_129 => ?_) (fun c_129 => ?_)
      · have tc_129 : x.toInt ≤ 255 := v_le c_129
        refine lv_aload_n hx hb dX12_writeLetter_23 rfl (lv_at hl 0 rfl) ?_
        refine lv_iload_n hx hb dX12_writeLetter_24 rfl (lv_at hl 2 rfl) ?_
        refine kV_v (rest := []) (q0 := 0) (ci := 12) hcf (m_X12_put l dC dI cI cS s.heap.size oM mT mS mX mL mB mD m1 m2 mR x1 x2 x3 mH mY mE mW mO y1 y2 y3 y4 mZ zt zp zf zh zr zc zy za zb zs zq zw ze zn zm zl zk zd eY x (g_zt) (g_zp) (g_zf) (g_zh) (g_zr) (g_zc) (g_zy) (g_za) (g_zb) (g_zs) (g_zq) (g_zn) (g_zm) (g_zk) (g_eY) (by omega) (by omega)) kc_X12_put gX12_writeLetter_X12_put rfl rfl rfl ⟨Nat.le_of_ble_eq_true rfl, Nat.le_of_ble_eq_true rfl⟩ kX_t hK hP hD hS hA [0, 1] [2] rfl (by decide +kernel) rfl rfl rfl hl rfl (Nat.le_of_ble_eq_true rfl) dX12_writeLetter_25 ⟨Nat.le_of_ble_eq_true rfl, Nat.le_of_ble_eq_true rfl⟩ (fun H locs hB hJ hSn => ?_)
        obtain ⟨zn_130, eY_130, ⟨hP1, hD1⟩, hf130_0, hf130_1, hf130_2⟩ := hB
        obtain ⟨hPn, hDn⟩ := hJ _ hP1 hD1 [(mB, .inl (cS, 131072, .inl eB)), (oM, .inr (12, [.ref mT, .int zt, .ref mS, .ref mX, .int zp, .int zf, .ref mL, .ref mB, .ref mD, .ref m1, .ref m2, .int zh, .ref mR, .int zr, .ref x1, .ref x2, .ref x3, .int zc, .ref mH, .int zy, .int za, .int zb, .int zs, .int zq, .int zw, .int ze, .ref mY, .int zn_130, .ref mE, .int zm, .int zl, .ref mW, .int zk, .ref mO, .int zd, .ref y1, .ref y2, .ref y3, .ref y4, .ref mZ])), (mY, .inl (cI, 2600, .inl eY_130))] rfl
        clear hP hD hS hJ hP1 hD1
        have hP := hPn
        have hD := hDn
        have hS := hSn
        clear hPn hDn hSn
        refine lv_goto (tgt := 244) hx hb dX12_writeLetter_28 (by decide) ?_
        refine lv_iconst (v := 1) hx hb dX12_writeLetter_244 (by decide) ?_
        exact kl_z (v := 1) hQQ hx hb hr hlocks hS dX12_writeLetter_245 (rfl) ⟨zn_130, eY_130, kPD_sub hP hD [1, 2, 0] (by decide +kernel) rfl, hf130_0, hf130_1, by decide, by show zn_130.toInt ≤ zn.toInt + 8; omega⟩
      · have tc_129 : 255 < x.toInt := v_nle c_129
        refine lv_iconst (v := 0) hx hb dX12_writeLetter_21 (by decide) ?_
        exact kl_z (v := 0) hQQ hx hb hr hlocks hS dX12_writeLetter_22 (rfl) ⟨zn, eY, ⟨hP, hD⟩, g_zn, g_eY, by decide, by show zn.toInt ≤ zn.toInt + 8; omega⟩
    · have tc_128 : cd.toInt = 0 := v_eq c_128
      refine lv_bipush (v := 127) hx hb dX12_writeLetter_10 (by decide) ?_
      refine lv_goto (tgt := 18) hx hb dX12_writeLetter_12 (by decide) ?_
      refine lv_icmp_le (tgt := 23) hx hb dX12_writeLetter_18 (by decide) (fun c_131 => ?_) (fun c_131 => ?_)
      · have tc_131 : x.toInt ≤ 127 := v_le c_131
        refine lv_aload_n hx hb dX12_writeLetter_23 rfl (lv_at hl 0 rfl) ?_
        refine lv_iload_n hx hb dX12_writeLetter_24 rfl (lv_at hl 2 rfl) ?_
        refine kV_v (rest := []) (q0 := 0) (ci := 12) hcf (m_X12_put l dC dI cI cS s.heap.size oM mT mS mX mL mB mD m1 m2 mR x1 x2 x3 mH mY mE mW mO y1 y2 y3 y4 mZ zt zp zf zh zr zc zy za zb zs zq zw ze zn zm zl zk zd eY x (g_zt) (g_zp) (g_zf) (g_zh) (g_zr) (g_zc) (g_zy) (g_za) (g_zb) (g_zs) (g_zq) (g_zn) (g_zm) (g_zk) (g_eY) (by omega) (by omega)) kc_X12_put gX12_writeLetter_X12_put rfl rfl rfl ⟨Nat.le_of_ble_eq_true rfl, Nat.le_of_ble_eq_true rfl⟩ kX_t hK hP hD hS hA [0, 1] [2] rfl (by decide +kernel) rfl rfl rfl hl rfl (Nat.le_of_ble_eq_true rfl) dX12_writeLetter_25 ⟨Nat.le_of_ble_eq_true rfl, Nat.le_of_ble_eq_true rfl⟩ (fun H locs hB hJ hSn => ?_)
        obtain ⟨zn_132, eY_132, ⟨hP1, hD1⟩, hf132_0, hf132_1, hf132_2⟩ := hB
        obtain ⟨hPn, hDn⟩ := hJ _ hP1 hD1 [(mB, .inl (cS, 131072, .inl eB)), (oM, .inr (12, [.ref mT, .int zt, .ref mS, .ref mX, .int zp, .int zf, .ref mL, .ref mB, .ref mD, .ref m1, .ref m2, .int zh, .ref mR, .int zr, .ref x1, .ref x2, .ref x3, .int zc, .ref mH, .int zy, .int za, .int zb, .int zs, .int zq, .int zw, .int ze, .ref mY, .int zn_132, .ref mE, .int zm, .int zl, .ref mW, .int zk, .ref mO, .int zd, .ref y1, .ref y2, .ref y3, .ref y4, .ref mZ])), (mY, .inl (cI, 2600, .inl eY_132))] rfl
        clear hP hD hS hJ hP1 hD1
        have hP := hPn
        have hD := hDn
        have hS := hSn
        clear hPn hDn hSn
        refine lv_goto (tgt := 244) hx hb dX12_writeLetter_28 (by decide) ?_
        refine lv_iconst (v := 1) hx hb dX12_writeLetter_244 (by decide) ?_
        exact kl_z (v := 1) hQQ hx hb hr hlocks hS dX12_writeLetter_245 (rfl) ⟨zn_132, eY_132, kPD_sub hP hD [1, 2, 0] (by decide +kernel) rfl, hf132_0, hf132_1, by decide, by show zn_132.toInt ≤ zn.toInt + 8; omega⟩
      · have tc_131 : 127 < x.toInt := v_nle c_131
        refine lv_iconst (v := 0) hx hb dX12_writeLetter_21 (by decide) ?_
        exact kl_z (v := 0) hQQ hx hb hr hlocks hS dX12_writeLetter_22 (rfl) ⟨zn, eY, ⟨hP, hD⟩, g_zn, g_eY, by decide, by show zn.toInt ≤ zn.toInt + 8; omega⟩

set_option maxHeartbeats 40000000 in
set_option maxRecDepth 100000 in
theorem m_X12_write (l : Launch) (dC : Nat → ClassId) (dI : Nat → Nat → Nat) (cI cS : ClassId) (sz : Nat) (oM : Nat) (rw : Nat) (mT : Nat) (mS : Nat) (mX : Nat) (mL : Nat) (mB : Nat) (mD : Nat) (m1 : Nat) (m2 : Nat) (mR : Nat) (x1 : Nat) (x2 : Nat) (x3 : Nat) (mH : Nat) (mY : Nat) (mE : Nat) (mW : Nat) (mO : Nat) (y1 : Nat) (y2 : Nat) (y3 : Nat) (y4 : Nat) (mZ : Nat) (cw : Nat) (zt : Int32) (zp : Int32) (zf : Int32) (zh : Int32) (zr : Int32) (zc : Int32) (zy : Int32) (za : Int32) (zb : Int32) (zs : Int32) (zq : Int32) (zw : Int32) (ze : Int32) (zn : Int32) (zm : Int32) (zl : Int32) (zk : Int32) (zd : Int32) (eY : Nat → Int32) (eB : Nat → Int32) (fr : Nat → Int32) (cd : Int32) (n : Int32) (g_zt : 0 ≤ zt.toInt ∧ zt.toInt ≤ 900) (g_zp : 0 ≤ zp.toInt ∧ zp.toInt ≤ 20) (g_zf : 0 ≤ zf.toInt ∧ zf.toInt ≤ 19) (g_zh : 0 ≤ zh.toInt ∧ zh.toInt ≤ 6) (g_zr : 0 ≤ zr.toInt ∧ zr.toInt ≤ 258) (g_zc : 0 ≤ zc.toInt ∧ zc.toInt ≤ 300) (g_zy : 0 ≤ zy.toInt ∧ zy.toInt ≤ 65536) (g_za : 0 ≤ za.toInt ∧ za.toInt ≤ 5) (g_zb : 0 ≤ zb.toInt ∧ zb.toInt ≤ 5) (g_zs : 0 ≤ zs.toInt ∧ zs.toInt ≤ 2000000) (g_zq : -1 ≤ zq.toInt ∧ zq.toInt ≤ 2000000) (g_zn : 0 ≤ zn.toInt ∧ zn.toInt ≤ 2600) (g_zm : 0 ≤ zm.toInt ∧ zm.toInt ≤ 2600) (g_zk : 0 ≤ zk.toInt ∧ zk.toInt ≤ 300) (g_eY : rg 0 255 eY) (g_eB : rg (-1) 255 eB) (g_fr : rg 0 65535 fr) (g_cd : 0 ≤ cd.toInt ∧ cd.toInt ≤ 5) (g_n : 0 ≤ n.toInt ∧ n.toInt ≤ 300) (hcw : n.toInt ≤ (cw : Int)) (hcw2 : cw ≤ 6300) : kMi l yX12_write wsX12_write ({ frames := 2, cells := 0, slots := 0, locals := 44 } : Room) [.ref oM, .int cd, .ref rw, .int n] sz (dC, dI) vwCl [(cI, .int), (cS, .short)] [(oM, .inr (12, [.ref mT, .int zt, .ref mS, .ref mX, .int zp, .int zf, .ref mL, .ref mB, .ref mD, .ref m1, .ref m2, .int zh, .ref mR, .int zr, .ref x1, .ref x2, .ref x3, .int zc, .ref mH, .int zy, .int za, .int zb, .int zs, .int zq, .int zw, .int ze, .ref mY, .int zn, .ref mE, .int zm, .int zl, .ref mW, .int zk, .ref mO, .int zd, .ref y1, .ref y2, .ref y3, .ref y4, .ref mZ])), (mY, .inl (cI, 2600, .inl eY)), (mB, .inl (cS, 131072, .inl eB)), (rw, .inl (cI, cw, .inl fr))] (fun _ => True) 0 0 (fun (A : Nat → Prop) (r : Int32) (hh9 : Heap) => ∃ (zn' : Int32) (eY' : Nat → Int32) (zl' : Int32), kPD (dC, dI) vwCl A [(oM, .inr (12, [.ref mT, .int zt, .ref mS, .ref mX, .int zp, .int zf, .ref mL, .ref mB, .ref mD, .ref m1, .ref m2, .int zh, .ref mR, .int zr, .ref x1, .ref x2, .ref x3, .int zc, .ref mH, .int zy, .int za, .int zb, .int zs, .int zq, .int zw, .int ze, .ref mY, .int zn', .ref mE, .int zm, .int zl', .ref mW, .int zk, .ref mO, .int zd, .ref y1, .ref y2, .ref y3, .ref y4, .ref mZ])), (mY, .inl (cI, 2600, .inl eY')), (mB, .inl (cS, 131072, .inl eB)), (rw, .inl (cI, cw, .inl fr))] hh9 ∧ (0 ≤ zn'.toInt ∧ zn'.toInt ≤ 2600) ∧ (rg 0 255 eY') ∧ (0 ≤ r.toInt ∧ r.toInt ≤ 1)) := by
  refine kMi_of (cc := cX12_write) (maxL := 5) (ret := (some .boolean)) (lv := [(0, .ref oM), (1, .int cd), (2, .ref rw), (3, .int n)]) (by decide +kernel) rfl rfl (Nat.le_of_ble_eq_true rfl) ?_
  intro p e s m below meth c A QQ ls hx hb hr hts hml hown hlocks hA hQQ hK hX hP hD hS hl
  have hown : s.vm.findClass RX12 = some m.cls := hown
  have hcf := k_cf hx hb hml hown hts
  have in_X12 : ∀ w ∈ wsX120, w ∈ wsX12_write := fun _ h => List.mem_cons_of_mem _ (List.mem_append_right _ (h))
  replace g_zt := hid g_zt
  replace g_zp := hid g_zp
  replace g_zf := hid g_zf
  replace g_zh := hid g_zh
  replace g_zr := hid g_zr
  replace g_zc := hid g_zc
  replace g_zy := hid g_zy
  replace g_za := hid g_za
  replace g_zb := hid g_zb
  replace g_zs := hid g_zs
  replace g_zq := hid g_zq
  replace g_zn := hid g_zn
  replace g_zm := hid g_zm
  replace g_zk := hid g_zk
  replace g_cd := hid g_cd
  refine lv_aload_n hx hb dX12_write_0 rfl (lv_at hl 0 rfl) ?_
  refine lv_iconst (v := 0) hx hb dX12_write_1 (by decide) ?_
  refine va_put (D := (dC, dI)) (ci := 12) (v := .int 0) (ty := .int) (C := RX12) (T := TX12) (N := 40) hx hb hts in_X12 tyX12 tyX12_ok nmX12 hown hK hP hD hS 0 rfl rfl 27 (by decide) (hts (.fieldLink RX12 91 "TextMenderModel" "byteMany" "I") (List.mem_of_getElem? (i := 1) rfl)) (fun _ h9 => h9) rfl (by decide +kernel) rfl rfl (Nat.le_of_ble_eq_true rfl) dX12_write_2 (kW (wn := [(oM, .inr (12, [.ref mT, .int zt, .ref mS, .ref mX, .int zp, .int zf, .ref mL, .ref mB, .ref mD, .ref m1, .ref m2, .int zh, .ref mR, .int zr, .ref x1, .ref x2, .ref x3, .int zc, .ref mH, .int zy, .int za, .int zb, .int zs, .int zq, .int zw, .int ze, .ref mY, .int 0, .ref mE, .int zm, .int zl, .ref mW, .int zk, .ref mO, .int zd, .ref y1, .ref y2, .ref y3, .ref y4, .ref mZ])), (mY, .inl (cI, 2600, .inl eY)), (mB, .inl (cS, 131072, .inl eB)), (rw, .inl (cI, cw, .inl fr))]) rfl (fun H locs hPn hDn hSn => ?_))
  clear hP hD hS
  have hP := hPn
  have hD := hDn
  have hS := hSn
  clear hPn hDn hSn
  refine lv_iconst (v := 0) hx hb dX12_write_5 (by decide) ?_
  refine lv_istore (lv' := [(4, .int 0), (0, .ref oM), (1, .int cd), (2, .ref rw), (3, .int n)]) hx hb dX12_write_6 hl (by decide) rfl (fun ls hl => ?_)
  have LOOP_8 : ∀ (k_8 : Nat) (k : Int32) (zna : Int32) (zla : Int32) (eYa : Nat → Int32) (H : Heap) (locs : List Loc) (ls : Array Slot), MSd (300 - k.toInt : Int) k_8 → (0 ≤ k.toInt ∧ k.toInt ≤ 300) → (0 ≤ zna.toInt ∧ zna.toInt ≤ 8 * k.toInt) → (rg 0 255 eYa) → va_P (dC, dI) vwCl [(oM, .inr (12, [.ref mT, .int zt, .ref mS, .ref mX, .int zp, .int zf, .ref mL, .ref mB, .ref mD, .ref m1, .ref m2, .int zh, .ref mR, .int zr, .ref x1, .ref x2, .ref x3, .int zc, .ref mH, .int zy, .int za, .int zb, .int zs, .int zq, .int zw, .int ze, .ref mY, .int zna, .ref mE, .int zm, .int zla, .ref mW, .int zk, .ref mO, .int zd, .ref y1, .ref y2, .ref y3, .ref y4, .ref mZ])), (mY, .inl (cI, 2600, .inl eYa)), (mB, .inl (cS, 131072, .inl eB)), (rw, .inl (cI, cw, .inl fr))] H → va_D A [(oM, .inr (12, [.ref mT, .int zt, .ref mS, .ref mX, .int zp, .int zf, .ref mL, .ref mB, .ref mD, .ref m1, .ref m2, .int zh, .ref mR, .int zr, .ref x1, .ref x2, .ref x3, .int zc, .ref mH, .int zy, .int za, .int zb, .int zs, .int zq, .int zw, .int ze, .ref mY, .int zna, .ref mE, .int zm, .int zla, .ref mW, .int zk, .ref mO, .int zd, .ref y1, .ref y2, .ref y3, .ref y4, .ref mZ])), (mY, .inl (cI, 2600, .inl eYa)), (mB, .inl (cS, 131072, .inl eB)), (rw, .inl (cI, cw, .inl fr))] → va_S A s.heap H locs → lv_has ls 5 [(4, .int k), (0, .ref oM), (1, .int cd), (2, .ref rw), (3, .int n)] → W p l e (headSpec wsX12_write ({ frames := 2, cells := 0, slots := 0, locals := 44 } : Room)).room s m ([.ref oM, .int cd, .ref rw, .int n] : List Value).toArray below meth c H locs 0 0 (MQ below QQ ([.ref oM, .int cd, .ref rw, .int n] : List Value).toArray s 0 0 A) (F0 m 8 ls []) := by
    clear hP hD hS hl
    try (clear g_eY)
    intro k_8
    induction k_8 with
    | zero =>
      intro k zna zla eYa H locs ls hm_8 g_k g_zna g_eYa hP hD hS hl
      exact ms_0 hm_8
    | succ k_8 ih_8 =>
      intro k zna zla eYa H locs ls hm_8 g_k g_zna g_eYa hP hD hS hl
      refine lv_iload hx hb dX12_write_8 (lv_at hl 0 rfl) ?_
      refine lv_iload_n hx hb dX12_write_10 rfl (lv_at hl 4 rfl) ?_
      refine lv_icmp_ge (tgt := 40) hx hb dX12_write_11 (by decide) (fun c_1 => ?_) (fun c_1 => ?_)
      · have tc_1 : n.toInt ≤ k.toInt := v_le c_1
        refine lv_iconst (v := 1) hx hb dX12_write_40 (by decide) ?_
        exact kl_z (v := 1) hQQ hx hb hr hlocks hS dX12_write_41 (rfl) ⟨zna, eYa, zla, ⟨hP, hD⟩, by omega, g_eYa, by decide⟩
      · have tc_1 : k.toInt < n.toInt := v_nle c_1
        refine lv_aload_n hx hb dX12_write_14 rfl (lv_at hl 1 rfl) ?_
        refine lv_iload_n hx hb dX12_write_15 rfl (lv_at hl 2 rfl) ?_
        refine lv_aload_n hx hb dX12_write_16 rfl (lv_at hl 3 rfl) ?_
        refine lv_iload hx hb dX12_write_17 (lv_at hl 0 rfl) ?_
        refine va_iald hx hb hK hP 3 0 rfl rfl (v_in (by omega)) dX12_write_19 ?_
        refine lv_topi (fun x_2 ex_2 => ?_)
        have tx_2 : 0 ≤ x_2.toInt ∧ x_2.toInt ≤ 65535 := rg_at g_fr ex_2
        refine kV_i (rest := []) (q0 := 0) (ci := 12) hcf (m_X12_writeLetter l dC dI cI cS H.size oM mT mS mX mL mB mD m1 m2 mR x1 x2 x3 mH mY mE mW mO y1 y2 y3 y4 mZ zt zp zf zh zr zc zy za zb zs zq zw ze zna zm zla zk zd eYa eB cd x_2 (g_zt) (g_zp) (g_zf) (g_zh) (g_zr) (g_zc) (g_zy) (g_za) (g_zb) (g_zs) (g_zq) (by omega) (g_zm) (g_zk) (g_eYa) (g_eB) (g_cd) (v_rr tx_2 (by decide) (by decide)) (by omega)) kc_X12_writeLetter gX12_write_X12_writeLetter rfl rfl rfl ⟨Nat.le_of_ble_eq_true rfl, Nat.le_of_ble_eq_true rfl⟩ kX_t hK hP hD hS hA [0, 1, 2] [3] rfl (by decide +kernel) rfl rfl rfl hl rfl (Nat.le_of_ble_eq_true rfl) dX12_write_20 ⟨Nat.le_of_ble_eq_true rfl, Nat.le_of_ble_eq_true rfl⟩ (fun r_3 H locs hB hJ hSn => ?_)
        obtain ⟨zn_3, eY_3, ⟨hP1, hD1⟩, hf3_0, hf3_1, hf3_2, hf3_3⟩ := hB
        obtain ⟨hPn, hDn⟩ := hJ _ hP1 hD1 [(rw, .inl (cI, cw, .inl fr)), (oM, .inr (12, [.ref mT, .int zt, .ref mS, .ref mX, .int zp, .int zf, .ref mL, .ref mB, .ref mD, .ref m1, .ref m2, .int zh, .ref mR, .int zr, .ref x1, .ref x2, .ref x3, .int zc, .ref mH, .int zy, .int za, .int zb, .int zs, .int zq, .int zw, .int ze, .ref mY, .int zn_3, .ref mE, .int zm, .int zla, .ref mW, .int zk, .ref mO, .int zd, .ref y1, .ref y2, .ref y3, .ref y4, .ref mZ])), (mY, .inl (cI, 2600, .inl eY_3)), (mB, .inl (cS, 131072, .inl eB))] rfl
        clear hP hD hS hJ hP1 hD1
        have hP := hPn
        have hD := hDn
        have hS := hSn
        clear hPn hDn hSn
        refine lv_if_ne (tgt := 34) hx hb dX12_write_23 (by decide) (fun c_4 => ?_) (fun c_4 => ?_)
        · have tc_4 : ¬ r_3.toInt = 0 := v_ne c_4
          obtain ⟨x_5, ex_5⟩ : ∃ y : Int32, y = k + 1 := ⟨_, rfl⟩
          have tx_5 : x_5.toInt = k.toInt + 1 := v_addR (l2 := 1) (h2 := 1) ex_5 g_k (by decide) (by decide) (by decide)
          refine lv_iinc (v := x_5) (lv' := [(4, .int x_5), (0, .ref oM), (1, .int cd), (2, .ref rw), (3, .int n)]) hx hb dX12_write_34 hl (k := 0) rfl (by rw [ex_5]; rfl) (by decide) rfl (fun ls hl => ?_)
          refine lv_goto (tgt := 8) hx hb dX12_write_37 (by decide) ?_
          exact ih_8 x_5 zn_3 zla eY_3 _ _ _ (ms_lt hm_8 (by show ((300 - x_5.toInt : Int)) < 300 - k.toInt; omega) (by show (0 : Int) < 300 - k.toInt; omega)) (by show 0 ≤ x_5.toInt ∧ x_5.toInt ≤ 300; omega) (by show 0 ≤ zn_3.toInt ∧ zn_3.toInt ≤ 8 * x_5.toInt; omega) (hf3_1) (hP.sub [1, 2, 3, 0] rfl) (hD.sub [1, 2, 3, 0] (by decide +kernel) rfl) hS (lv_sub hl [0, 1, 2, 3, 4] rfl)
        · have tc_4 : r_3.toInt = 0 := v_eq c_4
          refine lv_aload_n hx hb dX12_write_26 rfl (lv_at hl 1 rfl) ?_
          refine lv_iload hx hb dX12_write_27 (lv_at hl 0 rfl) ?_
          refine va_put (D := (dC, dI)) (ci := 12) (v := .int k) (ty := .int) (C := RX12) (T := TX12) (N := 40) hx hb hts in_X12 tyX12 tyX12_ok nmX12 hown hK hP hD hS 1 rfl rfl 30 (by decide) (hts (.fieldLink RX12 102 "TextMenderModel" "faultAt" "I") (List.mem_of_getElem? (i := 2) rfl)) (fun _ h9 => h9) rfl (by decide +kernel) rfl rfl (Nat.le_of_ble_eq_true rfl) dX12_write_29 (kW (wn := [(rw, .inl (cI, cw, .inl fr)), (oM, .inr (12, [.ref mT, .int zt, .ref mS, .ref mX, .int zp, .int zf, .ref mL, .ref mB, .ref mD, .ref m1, .ref m2, .int zh, .ref mR, .int zr, .ref x1, .ref x2, .ref x3, .int zc, .ref mH, .int zy, .int za, .int zb, .int zs, .int zq, .int zw, .int ze, .ref mY, .int zn_3, .ref mE, .int zm, .int k, .ref mW, .int zk, .ref mO, .int zd, .ref y1, .ref y2, .ref y3, .ref y4, .ref mZ])), (mY, .inl (cI, 2600, .inl eY_3)), (mB, .inl (cS, 131072, .inl eB))]) rfl (fun H locs hPn hDn hSn => ?_))
          clear hP hD hS
          have hP := hPn
          have hD := hDn
          have hS := hSn
          clear hPn hDn hSn
          refine lv_iconst (v := 0) hx hb dX12_write_32 (by decide) ?_
          exact kl_z (v := 0) hQQ hx hb hr hlocks hS dX12_write_33 (rfl) ⟨zn_3, eY_3, k, kPD_sub hP hD [1, 2, 3, 0] (by decide +kernel) rfl, hf3_0, hf3_1, by decide⟩
  exact LOOP_8 _ 0 0 zl eY _ _ _ (ms_s _) (by decide) (by show 0 ≤ (0 : Int) ∧ (0 : Int) ≤ 8 * 0; omega) (g_eY) hP hD hS (lv_sub hl [0, 1, 2, 3, 4] rfl)

set_option maxHeartbeats 40000000 in
set_option maxRecDepth 100000 in
theorem m_X12_byteAt (l : Launch) (dC : Nat → ClassId) (dI : Nat → Nat → Nat) (cI cS : ClassId) (sz : Nat) (oM : Nat) (mT : Nat) (mS : Nat) (mX : Nat) (mL : Nat) (mB : Nat) (mD : Nat) (m1 : Nat) (m2 : Nat) (mR : Nat) (x1 : Nat) (x2 : Nat) (x3 : Nat) (mH : Nat) (mY : Nat) (mE : Nat) (mW : Nat) (mO : Nat) (y1 : Nat) (y2 : Nat) (y3 : Nat) (y4 : Nat) (mZ : Nat) (zt : Int32) (zp : Int32) (zf : Int32) (zh : Int32) (zr : Int32) (zc : Int32) (zy : Int32) (za : Int32) (zb : Int32) (zs : Int32) (zq : Int32) (zw : Int32) (ze : Int32) (zn : Int32) (zm : Int32) (zl : Int32) (zk : Int32) (zd : Int32) (eY : Nat → Int32) (q : Int32) (g_zt : 0 ≤ zt.toInt ∧ zt.toInt ≤ 900) (g_zp : 0 ≤ zp.toInt ∧ zp.toInt ≤ 20) (g_zf : 0 ≤ zf.toInt ∧ zf.toInt ≤ 19) (g_zh : 0 ≤ zh.toInt ∧ zh.toInt ≤ 6) (g_zr : 0 ≤ zr.toInt ∧ zr.toInt ≤ 258) (g_zc : 0 ≤ zc.toInt ∧ zc.toInt ≤ 300) (g_zy : 0 ≤ zy.toInt ∧ zy.toInt ≤ 65536) (g_za : 0 ≤ za.toInt ∧ za.toInt ≤ 5) (g_zb : 0 ≤ zb.toInt ∧ zb.toInt ≤ 5) (g_zs : 0 ≤ zs.toInt ∧ zs.toInt ≤ 2000000) (g_zq : -1 ≤ zq.toInt ∧ zq.toInt ≤ 2000000) (g_zn : 0 ≤ zn.toInt ∧ zn.toInt ≤ 2600) (g_zm : 0 ≤ zm.toInt ∧ zm.toInt ≤ 2600) (g_zk : 0 ≤ zk.toInt ∧ zk.toInt ≤ 300) (g_eY : rg 0 255 eY) (g_q : 0 ≤ q.toInt ∧ q.toInt ≤ 2700) : kMi l yX12_byteAt wsX12_byteAt ({ frames := 0, cells := 0, slots := 0, locals := 0 } : Room) [.ref oM, .int q] sz (dC, dI) vwCl [(cI, .int), (cS, .short)] [(oM, .inr (12, [.ref mT, .int zt, .ref mS, .ref mX, .int zp, .int zf, .ref mL, .ref mB, .ref mD, .ref m1, .ref m2, .int zh, .ref mR, .int zr, .ref x1, .ref x2, .ref x3, .int zc, .ref mH, .int zy, .int za, .int zb, .int zs, .int zq, .int zw, .int ze, .ref mY, .int zn, .ref mE, .int zm, .int zl, .ref mW, .int zk, .ref mO, .int zd, .ref y1, .ref y2, .ref y3, .ref y4, .ref mZ])), (mY, .inl (cI, 2600, .inl eY))] (fun _ => True) 0 0 (fun (A : Nat → Prop) (r : Int32) (hh9 : Heap) => kPD (dC, dI) vwCl A [(oM, .inr (12, [.ref mT, .int zt, .ref mS, .ref mX, .int zp, .int zf, .ref mL, .ref mB, .ref mD, .ref m1, .ref m2, .int zh, .ref mR, .int zr, .ref x1, .ref x2, .ref x3, .int zc, .ref mH, .int zy, .int za, .int zb, .int zs, .int zq, .int zw, .int ze, .ref mY, .int zn, .ref mE, .int zm, .int zl, .ref mW, .int zk, .ref mO, .int zd, .ref y1, .ref y2, .ref y3, .ref y4, .ref mZ])), (mY, .inl (cI, 2600, .inl eY))] hh9 ∧ (-1 ≤ r.toInt ∧ r.toInt ≤ 255) ∧ ((q.toInt < zn.toInt ∧ 0 ≤ r.toInt) ∨ (zn.toInt ≤ q.toInt ∧ r.toInt = -1))) := by
  refine kMi_of (cc := cX12_byteAt) (maxL := 2) (ret := (some .int)) (lv := [(0, .ref oM), (1, .int q)]) (by decide +kernel) rfl rfl (Nat.le_of_ble_eq_true rfl) ?_
  intro p e s m below meth c A QQ ls hx hb hr hts hml hown hlocks hA hQQ hK hX hP hD hS hl
  have hown : s.vm.findClass RX12 = some m.cls := hown
  have hcf := k_cf hx hb hml hown hts
  have in_X12 : ∀ w ∈ wsX120, w ∈ wsX12_byteAt := fun _ h => List.mem_cons_of_mem _ (List.mem_append_right _ (h))
  replace g_zt := hid g_zt
  replace g_zp := hid g_zp
  replace g_zf := hid g_zf
  replace g_zh := hid g_zh
  replace g_zr := hid g_zr
  replace g_zc := hid g_zc
  replace g_zy := hid g_zy
  replace g_za := hid g_za
  replace g_zb := hid g_zb
  replace g_zs := hid g_zs
  replace g_zq := hid g_zq
  replace g_zm := hid g_zm
  replace g_zk := hid g_zk
  refine lv_iload_n hx hb dX12_byteAt_0 rfl (lv_at hl 1 rfl) ?_
  refine lv_aload_n hx hb dX12_byteAt_1 rfl (lv_at hl 0 rfl) ?_
  refine va_get (D := (dC, dI)) (ci := 12) (v := .int zn) (C := RX12) (T := TX12) (N := 40) hx hb hts in_X12 hown hK hP 0 rfl rfl 27 (by decide) (hts (.fieldLink RX12 91 "TextMenderModel" "byteMany" "I") (List.mem_of_getElem? (i := 1) rfl)) (fun _ h9 => h9) rfl dX12_byteAt_2 ?_
  refine lv_icmp_ge (tgt := 17) hx hb dX12_byteAt_5 (by decide) (fun c_1 => ?_) (fun c_1 => ?_)
  · have tc_1 : zn.toInt ≤ q.toInt := v_le c_1
    refine lv_iconst (v := (-1)) hx hb dX12_byteAt_17 (by decide) ?_
    exact kl_i (v := (-1)) hQQ hx hb hr hlocks hS dX12_byteAt_18 ⟨⟨hP, hD⟩, by decide, by show (q.toInt < zn.toInt ∧ 0 ≤ (-1)) ∨ (zn.toInt ≤ q.toInt ∧ (-1) = -1); omega⟩
  · have tc_1 : q.toInt < zn.toInt := v_nle c_1
    refine lv_aload_n hx hb dX12_byteAt_8 rfl (lv_at hl 0 rfl) ?_
    refine va_get (D := (dC, dI)) (ci := 12) (v := .ref mY) (C := RX12) (T := TX12) (N := 40) hx hb hts in_X12 hown hK hP 0 rfl rfl 26 (by decide) (hts (.fieldLink RX12 58 "TextMenderModel" "bytes" "[I") (List.mem_of_getElem? (i := 2) rfl)) (fun _ h9 => h9) rfl dX12_byteAt_9 ?_
    refine lv_iload_n hx hb dX12_byteAt_12 rfl (lv_at hl 1 rfl) ?_
    refine va_iald hx hb hK hP 1 0 rfl rfl (v_in (by omega)) dX12_byteAt_13 ?_
    refine lv_topi (fun x_2 ex_2 => ?_)
    have tx_2 : 0 ≤ x_2.toInt ∧ x_2.toInt ≤ 255 := rg_at g_eY ex_2
    refine lv_goto (tgt := 18) hx hb dX12_byteAt_14 (by decide) ?_
    exact kl_i (v := x_2) hQQ hx hb hr hlocks hS dX12_byteAt_18 ⟨⟨hP, hD⟩, v_rr tx_2 (by decide) (by decide), by show (q.toInt < zn.toInt ∧ 0 ≤ x_2.toInt) ∨ (zn.toInt ≤ q.toInt ∧ x_2.toInt = -1); omega⟩

set_option maxHeartbeats 40000000 in
set_option maxRecDepth 100000 in
theorem m_X12_readAt (l : Launch) (dC : Nat → ClassId) (dI : Nat → Nat → Nat) (cI cS : ClassId) (sz : Nat) (oM : Nat) (mT : Nat) (mS : Nat) (mX : Nat) (mL : Nat) (mB : Nat) (mD : Nat) (m1 : Nat) (m2 : Nat) (mR : Nat) (x1 : Nat) (x2 : Nat) (x3 : Nat) (mH : Nat) (mY : Nat) (mE : Nat) (mW : Nat) (mO : Nat) (y1 : Nat) (y2 : Nat) (y3 : Nat) (y4 : Nat) (mZ : Nat) (zt : Int32) (zp : Int32) (zf : Int32) (zh : Int32) (zr : Int32) (zc : Int32) (zy : Int32) (za : Int32) (zb : Int32) (zs : Int32) (zq : Int32) (zw : Int32) (ze : Int32) (zn : Int32) (zm : Int32) (zl : Int32) (zk : Int32) (zd : Int32) (eY : Nat → Int32) (eL : Nat → Int32) (cd : Int32) (q : Int32) (g_zt : 0 ≤ zt.toInt ∧ zt.toInt ≤ 900) (g_zp : 0 ≤ zp.toInt ∧ zp.toInt ≤ 20) (g_zf : 0 ≤ zf.toInt ∧ zf.toInt ≤ 19) (g_zh : 0 ≤ zh.toInt ∧ zh.toInt ≤ 6) (g_zr : 0 ≤ zr.toInt ∧ zr.toInt ≤ 258) (g_zc : 0 ≤ zc.toInt ∧ zc.toInt ≤ 300) (g_zy : 0 ≤ zy.toInt ∧ zy.toInt ≤ 65536) (g_za : 0 ≤ za.toInt ∧ za.toInt ≤ 5) (g_zb : 0 ≤ zb.toInt ∧ zb.toInt ≤ 5) (g_zs : 0 ≤ zs.toInt ∧ zs.toInt ≤ 2000000) (g_zq : -1 ≤ zq.toInt ∧ zq.toInt ≤ 2000000) (g_zn : 0 ≤ zn.toInt ∧ zn.toInt ≤ 2600) (g_zm : 0 ≤ zm.toInt ∧ zm.toInt ≤ 2600) (g_zk : 0 ≤ zk.toInt ∧ zk.toInt ≤ 300) (g_eY : rg 0 255 eY) (g_eL : rg (-1) 65535 eL) (g_cd : 0 ≤ cd.toInt ∧ cd.toInt ≤ 5) (g_q : 0 ≤ q.toInt ∧ q.toInt ≤ 2599) : kMi l yX12_readAt wsX12_readAt ({ frames := 1, cells := 0, slots := 0, locals := 21 } : Room) [.ref oM, .int cd, .int q] sz (dC, dI) vwCl [(cI, .int), (cS, .short)] [(oM, .inr (12, [.ref mT, .int zt, .ref mS, .ref mX, .int zp, .int zf, .ref mL, .ref mB, .ref mD, .ref m1, .ref m2, .int zh, .ref mR, .int zr, .ref x1, .ref x2, .ref x3, .int zc, .ref mH, .int zy, .int za, .int zb, .int zs, .int zq, .int zw, .int ze, .ref mY, .int zn, .ref mE, .int zm, .int zl, .ref mW, .int zk, .ref mO, .int zd, .ref y1, .ref y2, .ref y3, .ref y4, .ref mZ])), (mY, .inl (cI, 2600, .inl eY)), (mL, .inl (cI, 512, .inl eL))] (fun _ => True) 0 0 (fun (A : Nat → Prop) (r : Int32) (hh9 : Heap) => ∃ (zd' : Int32), kPD (dC, dI) vwCl A [(oM, .inr (12, [.ref mT, .int zt, .ref mS, .ref mX, .int zp, .int zf, .ref mL, .ref mB, .ref mD, .ref m1, .ref m2, .int zh, .ref mR, .int zr, .ref x1, .ref x2, .ref x3, .int zc, .ref mH, .int zy, .int za, .int zb, .int zs, .int zq, .int zw, .int ze, .ref mY, .int zn, .ref mE, .int zm, .int zl, .ref mW, .int zk, .ref mO, .int zd', .ref y1, .ref y2, .ref y3, .ref y4, .ref mZ])), (mY, .inl (cI, 2600, .inl eY)), (mL, .inl (cI, 512, .inl eL))] hh9 ∧ (0 ≤ r.toInt ∧ r.toInt ≤ 9) ∧ (r.toInt = 0 ∨ (0 ≤ zd'.toInt ∧ zd'.toInt ≤ 65535))) := by
  refine kMi_of (cc := cX12_readAt) (maxL := 7) (ret := (some .int)) (lv := [(0, .ref oM), (1, .int cd), (2, .int q)]) (by decide +kernel) rfl rfl (Nat.le_of_ble_eq_true rfl) ?_
  intro p e s m below meth c A QQ ls hx hb hr hts hml hown hlocks hA hQQ hK hX hP hD hS hl
  have hown : s.vm.findClass RX12 = some m.cls := hown
  have hcf := k_cf hx hb hml hown hts
  have in_X12 : ∀ w ∈ wsX120, w ∈ wsX12_readAt := fun _ h => List.mem_cons_of_mem _ (List.mem_append_right _ (h))
  replace g_zt := hid g_zt
  replace g_zp := hid g_zp
  replace g_zf := hid g_zf
  replace g_zh := hid g_zh
  replace g_zr := hid g_zr
  replace g_zc := hid g_zc
  replace g_zy := hid g_zy
  replace g_za := hid g_za
  replace g_zb := hid g_zb
  replace g_zs := hid g_zs
  replace g_zq := hid g_zq
  replace g_zm := hid g_zm
  replace g_zk := hid g_zk
  refine lv_aload_n hx hb dX12_readAt_0 rfl (lv_at hl 0 rfl) ?_
  refine va_get (D := (dC, dI)) (ci := 12) (v := .ref mY) (C := RX12) (T := TX12) (N := 40) hx hb hts in_X12 hown hK hP 0 rfl rfl 26 (by decide) (hts (.fieldLink RX12 58 "TextMenderModel" "bytes" "[I") (List.mem_of_getElem? (i := 1) rfl)) (fun _ h9 => h9) rfl dX12_readAt_1 ?_
  refine lv_iload_n hx hb dX12_readAt_4 rfl (lv_at hl 2 rfl) ?_
  refine va_iald hx hb hK hP 1 0 rfl rfl (v_inR g_q (by decide) (by decide)) dX12_readAt_5 ?_
  refine lv_topi (fun x_1 ex_1 => ?_)
  have tx_1 : 0 ≤ x_1.toInt ∧ x_1.toInt ≤ 255 := rg_at g_eY ex_1
  refine lv_istore_n (lv' := [(3, .int x_1), (0, .ref oM), (1, .int cd), (2, .int q)]) hx hb dX12_readAt_6 rfl hl (by decide) rfl (fun ls hl => ?_)
  refine lv_aload_n hx hb dX12_readAt_7 rfl (lv_at hl 1 rfl) ?_
  refine lv_iload_n hx hb dX12_readAt_8 rfl (lv_at hl 0 rfl) ?_
  refine va_put (D := (dC, dI)) (ci := 12) (v := .int x_1) (ty := .int) (C := RX12) (T := TX12) (N := 40) hx hb hts in_X12 tyX12 tyX12_ok nmX12 hown hK hP hD hS 0 rfl rfl 34 (by decide) (hts (.fieldLink RX12 105 "TextMenderModel" "readLetter" "I") (List.mem_of_getElem? (i := 2) rfl)) (fun _ h9 => h9) rfl (by decide +kernel) rfl rfl (Nat.le_of_ble_eq_true rfl) dX12_readAt_9 (kW (wn := [(oM, .inr (12, [.ref mT, .int zt, .ref mS, .ref mX, .int zp, .int zf, .ref mL, .ref mB, .ref mD, .ref m1, .ref m2, .int zh, .ref mR, .int zr, .ref x1, .ref x2, .ref x3, .int zc, .ref mH, .int zy, .int za, .int zb, .int zs, .int zq, .int zw, .int ze, .ref mY, .int zn, .ref mE, .int zm, .int zl, .ref mW, .int zk, .ref mO, .int x_1, .ref y1, .ref y2, .ref y3, .ref y4, .ref mZ])), (mY, .inl (cI, 2600, .inl eY)), (mL, .inl (cI, 512, .inl eL))]) rfl (fun H locs hPn hDn hSn => ?_))
  clear hP hD hS
  have hP := hPn
  have hD := hDn
  have hS := hSn
  clear hPn hDn hSn
  refine lv_iload_n hx hb dX12_readAt_12 rfl (lv_at hl 2 rfl) ?_
  refine lv_iconst (v := 2) hx hb dX12_readAt_13 (by decide) ?_
  refine lv_icmp_ge (tgt := 39) hx hb dX12_readAt_14 (by decide) (fun c_2 => ?_) (fun c_2 => ?_)
  · have tc_2 : 2 ≤ cd.toInt := v_le c_2
    refine lv_iload_n hx hb dX12_readAt_39 rfl (lv_at hl 2 rfl) ?_
    refine lv_iconst (v := 3) hx hb dX12_readAt_40 (by decide) ?_
    refine lv_icmp_le (tgt := 76) hx hb dX12_readAt_41 (by decide) (fun c_3 => ?_) (fun c_3 => ?_)
    · have tc_3 : cd.toInt ≤ 3 := v_le c_3
      refine lv_iload_n hx hb dX12_readAt_76 rfl (lv_at hl 0 rfl) ?_
      refine lv_bipush (v := 127) hx hb dX12_readAt_77 (by decide) ?_
      refine lv_icmp_le (tgt := 89) hx hb dX12_readAt_79 (by decide) (fun c_4 => ?_) (fun c_4 => ?_)
      · have tc_4 : x_1.toInt ≤ 127 := v_le c_4
        refine lv_iload_n hx hb dX12_readAt_89 rfl (lv_at hl 0 rfl) ?_
        refine lv_sipush (v := 128) hx hb dX12_readAt_90 (by decide) ?_
        refine lv_icmp_ge (tgt := 109) hx hb dX12_readAt_93 (by decide) (fun c_5 => by exfalso; have tc_5 : 128 ≤ x_1.toInt := v_le c_5; omega) (fun c_5 => ?_)
        have tc_5 : x_1.toInt < 128 := v_nle c_5
        refine lv_iload_n hx hb dX12_readAt_96 rfl (lv_at hl 2 rfl) ?_
        refine lv_iconst (v := 2) hx hb dX12_readAt_97 (by decide) ?_
        refine lv_icmp_eq (tgt := 107) hx hb dX12_readAt_98 (by decide) (fun c_6 => ?_) (fun c_6 => ?_)
        · have tc_6 : cd.toInt = 2 := v_eq c_6
          refine lv_iconst (v := 1) hx hb dX12_readAt_107 (by decide) ?_
          exact kl_i (v := 1) hQQ hx hb hr hlocks hS dX12_readAt_108 ⟨x_1, ⟨hP, hD⟩, by decide, by show 1 = 0 ∨ (0 ≤ x_1.toInt ∧ x_1.toInt ≤ 65535); omega⟩
        · have tc_6 : ¬ cd.toInt = 2 := v_ne c_6
          refine lv_iload_n hx hb dX12_readAt_101 rfl (lv_at hl 0 rfl) ?_
          refine lv_bipush (v := 38) hx hb dX12_readAt_102 (by decide) ?_
          refine lv_icmp_eq (tgt := 109) hx hb dX12_readAt_104 (by decide) (fun c_7 => ?_) (fun c_7 => ?_)
          · have tc_7 : x_1.toInt = 38 := v_eq c_7
            refine lv_iload_n hx hb dX12_readAt_109 rfl (lv_at hl 2 rfl) ?_
            refine lv_iconst (v := 2) hx hb dX12_readAt_110 (by decide) ?_
            refine lv_icmp_ne (tgt := 264) hx hb dX12_readAt_111 (by decide) (fun c_8 => ?_) (fun c_8 => by exfalso; have tc_8 : cd.toInt = 2 := v_eq c_8; omega)
            have tc_8 : ¬ cd.toInt = 2 := v_ne c_8
            refine lv_aload_n hx hb dX12_readAt_264 rfl (lv_at hl 1 rfl) ?_
            refine lv_iload_n hx hb dX12_readAt_265 rfl (lv_at hl 3 rfl) ?_
            refine lv_iconst (v := 1) hx hb dX12_readAt_266 (by decide) ?_
            refine lv_iadd hx hb dX12_readAt_267 ?_
            refine lv_topi (fun x_9 ex_9 => ?_)
            have tx_9 : x_9.toInt = q.toInt + 1 := v_addR (l2 := 1) (h2 := 1) ex_9 g_q (by decide) (by decide) (by decide)
            refine kV_i (rest := []) (q0 := 0) (ci := 12) hcf (m_X12_byteAt l dC dI cI cS H.size oM mT mS mX mL mB mD m1 m2 mR x1 x2 x3 mH mY mE mW mO y1 y2 y3 y4 mZ zt zp zf zh zr zc zy za zb zs zq zw ze zn zm zl zk x_1 eY x_9 (g_zt) (g_zp) (g_zf) (g_zh) (g_zr) (g_zc) (g_zy) (g_za) (g_zb) (g_zs) (g_zq) (g_zn) (g_zm) (g_zk) (g_eY) (v_rr (v_sumR (l := 1) (h := 2600) (l2 := 1) (h2 := 1) tx_9 g_q (by decide) (by decide) (by decide)) (by decide) (by decide))) kc_X12_byteAt gX12_readAt_X12_byteAt rfl rfl rfl ⟨Nat.le_of_ble_eq_true rfl, Nat.le_of_ble_eq_true rfl⟩ kX_t hK hP hD hS hA [0, 1] [2] rfl (by decide +kernel) rfl rfl rfl hl rfl (Nat.le_of_ble_eq_true rfl) dX12_readAt_268 ⟨Nat.le_of_ble_eq_true rfl, Nat.le_of_ble_eq_true rfl⟩ (fun r_10 H locs hB hJ hSn => ?_)
            obtain ⟨⟨hP1, hD1⟩, hf10_0, hf10_1⟩ := hB
            obtain ⟨hPn, hDn⟩ := hJ _ hP1 hD1 [(mL, .inl (cI, 512, .inl eL)), (oM, .inr (12, [.ref mT, .int zt, .ref mS, .ref mX, .int zp, .int zf, .ref mL, .ref mB, .ref mD, .ref m1, .ref m2, .int zh, .ref mR, .int zr, .ref x1, .ref x2, .ref x3, .int zc, .ref mH, .int zy, .int za, .int zb, .int zs, .int zq, .int zw, .int ze, .ref mY, .int zn, .ref mE, .int zm, .int zl, .ref mW, .int zk, .ref mO, .int x_1, .ref y1, .ref y2, .ref y3, .ref y4, .ref mZ])), (mY, .inl (cI, 2600, .inl eY))] rfl
            clear hP hD hS hJ hP1 hD1
            have hP := hPn
            have hD := hDn
            have hS := hSn
            clear hPn hDn hSn
            refine lv_bipush (v := 35) hx hb dX12_readAt_271 (by decide) ?_
            refine lv_icmp_eq (tgt := 278) hx hb dX12_readAt_273 (by decide) (fun c_11 => ?_) (fun c_11 => ?_)
            · have tc_11 : r_10.toInt = 35 := v_eq c_11
              refine lv_iload_n hx hb dX12_readAt_278 rfl (lv_at hl 3 rfl) ?_
              refine lv_iconst (v := 2) hx hb dX12_readAt_279 (by decide) ?_
              refine lv_iadd hx hb dX12_readAt_280 ?_
              refine lv_topi (fun x_12 ex_12 => ?_)
              have tx_12 : x_12.toInt = q.toInt + 2 := v_addR (l2 := 2) (h2 := 2) ex_12 g_q (by decide) (by decide) (by decide)
              refine lv_istore (lv' := [(4, .int x_12), (3, .int x_1), (0, .ref oM), (1, .int cd), (2, .int q)]) hx hb dX12_readAt_281 hl (by decide) rfl (fun ls hl => ?_)
              refine lv_iconst (v := 0) hx hb dX12_readAt_283 (by decide) ?_
              refine lv_istore (lv' := [(5, .int 0), (4, .int x_12), (3, .int x_1), (0, .ref oM), (1, .int cd), (2, .int q)]) hx hb dX12_readAt_284 hl (by decide) rfl (fun ls hl => ?_)
              have LOOP_286 : ∀ (k_286 : Nat) (qq : Int32) (x : Int32) (H : Heap) (locs : List Loc) (ls : Array Slot), MSd (q.toInt + 8 - qq.toInt : Int) k_286 → (2 ≤ qq.toInt ∧ qq.toInt ≤ 2608) → (q.toInt + 2 ≤ qq.toInt ∧ qq.toInt ≤ q.toInt + 8) → va_P (dC, dI) vwCl [(mL, .inl (cI, 512, .inl eL)), (oM, .inr (12, [.ref mT, .int zt, .ref mS, .ref mX, .int zp, .int zf, .ref mL, .ref mB, .ref mD, .ref m1, .ref m2, .int zh, .ref mR, .int zr, .ref x1, .ref x2, .ref x3, .int zc, .ref mH, .int zy, .int za, .int zb, .int zs, .int zq, .int zw, .int ze, .ref mY, .int zn, .ref mE, .int zm, .int zl, .ref mW, .int zk, .ref mO, .int x_1, .ref y1, .ref y2, .ref y3, .ref y4, .ref mZ])), (mY, .inl (cI, 2600, .inl eY))] H → va_D A [(mL, .inl (cI, 512, .inl eL)), (oM, .inr (12, [.ref mT, .int zt, .ref mS, .ref mX, .int zp, .int zf, .ref mL, .ref mB, .ref mD, .ref m1, .ref m2, .int zh, .ref mR, .int zr, .ref x1, .ref x2, .ref x3, .int zc, .ref mH, .int zy, .int za, .int zb, .int zs, .int zq, .int zw, .int ze, .ref mY, .int zn, .ref mE, .int zm, .int zl, .ref mW, .int zk, .ref mO, .int x_1, .ref y1, .ref y2, .ref y3, .ref y4, .ref mZ])), (mY, .inl (cI, 2600, .inl eY))] → va_S A s.heap H locs → lv_has ls 7 [(5, .int x), (4, .int qq), (3, .int x_1), (0, .ref oM), (1, .int cd), (2, .int q)] → W p l e (headSpec wsX12_readAt ({ frames := 1, cells := 0, slots := 0, locals := 21 } : Room)).room s m ([.ref oM, .int cd, .int q] : List Value).toArray below meth c H locs 0 0 (MQ below QQ ([.ref oM, .int cd, .int q] : List Value).toArray s 0 0 A) (F0 m 286 ls []) := by
                clear hP hD hS hl
                try (clear g_eL)
                intro k_286
                induction k_286 with
                | zero =>
                  intro qq x H locs ls hm_286 g_qq hqq hP hD hS hl
                  exact ms_0 hm_286
                | succ k_286 ih_286 =>
                  intro qq x H locs ls hm_286 g_qq hqq hP hD hS hl
                  refine lv_aload_n hx hb dX12_readAt_286 rfl (lv_at hl 3 rfl) ?_
                  refine lv_iload hx hb dX12_readAt_287 (lv_at hl 1 rfl) ?_
                  refine kV_i (rest := []) (q0 := 0) (ci := 12) hcf (m_X12_byteAt l dC dI cI cS H.size oM mT mS mX mL mB mD m1 m2 mR x1 x2 x3 mH mY mE mW mO y1 y2 y3 y4 mZ zt zp zf zh zr zc zy za zb zs zq zw ze zn zm zl zk x_1 eY qq (g_zt) (g_zp) (g_zf) (g_zh) (g_zr) (g_zc) (g_zy) (g_za) (g_zb) (g_zs) (g_zq) (g_zn) (g_zm) (g_zk) (g_eY) (v_rr g_qq (by decide) (by decide))) kc_X12_byteAt gX12_readAt_X12_byteAt rfl rfl rfl ⟨Nat.le_of_ble_eq_true rfl, Nat.le_of_ble_eq_true rfl⟩ kX_t hK hP hD hS hA [1, 2] [0] rfl (by decide +kernel) rfl rfl rfl hl rfl (Nat.le_of_ble_eq_true rfl) dX12_readAt_289 ⟨Nat.le_of_ble_eq_true rfl, Nat.le_of_ble_eq_true rfl⟩ (fun r_13 H locs hB hJ hSn => ?_)
                  obtain ⟨⟨hP1, hD1⟩, hf13_0, hf13_1⟩ := hB
                  obtain ⟨hPn, hDn⟩ := hJ _ hP1 hD1 [(mL, .inl (cI, 512, .inl eL)), (oM, .inr (12, [.ref mT, .int zt, .ref mS, .ref mX, .int zp, .int zf, .ref mL, .ref mB, .ref mD, .ref m1, .ref m2, .int zh, .ref mR, .int zr, .ref x1, .ref x2, .ref x3, .int zc, .ref mH, .int zy, .int za, .int zb, .int zs, .int zq, .int zw, .int ze, .ref mY, .int zn, .ref mE, .int zm, .int zl, .ref mW, .int zk, .ref mO, .int x_1, .ref y1, .ref y2, .ref y3, .ref y4, .ref mZ])), (mY, .inl (cI, 2600, .inl eY))] rfl
                  clear hP hD hS hJ hP1 hD1
                  have hP := hPn
                  have hD := hDn
                  have hS := hSn
                  clear hPn hDn hSn
                  refine lv_bipush (v := 48) hx hb dX12_readAt_292 (by decide) ?_
                  refine lv_icmp_lt (tgt := 356) hx hb dX12_readAt_294 (by decide) (fun c_14 => ?_) (fun c_14 => ?_)
                  · have tc_14 : r_13.toInt < 48 := v_lt c_14
                    refine lv_aload_n hx hb dX12_readAt_356 rfl (lv_at hl 3 rfl) ?_
                    refine lv_iload hx hb dX12_readAt_357 (lv_at hl 0 rfl) ?_
                    refine va_put (D := (dC, dI)) (ci := 12) (v := .int x) (ty := .int) (C := RX12) (T := TX12) (N := 40) hx hb hts in_X12 tyX12 tyX12_ok nmX12 hown hK hP hD hS 1 rfl rfl 34 (by decide) (hts (.fieldLink RX12 105 "TextMenderModel" "readLetter" "I") (List.mem_of_getElem? (i := 2) rfl)) (fun _ h9 => h9) rfl (by decide +kernel) rfl rfl (Nat.le_of_ble_eq_true rfl) dX12_readAt_359 (kW (wn := [(mL, .inl (cI, 512, .inl eL)), (oM, .inr (12, [.ref mT, .int zt, .ref mS, .ref mX, .int zp, .int zf, .ref mL, .ref mB, .ref mD, .ref m1, .ref m2, .int zh, .ref mR, .int zr, .ref x1, .ref x2, .ref x3, .int zc, .ref mH, .int zy, .int za, .int zb, .int zs, .int zq, .int zw, .int ze, .ref mY, .int zn, .ref mE, .int zm, .int zl, .ref mW, .int zk, .ref mO, .int x, .ref y1, .ref y2, .ref y3, .ref y4, .ref mZ])), (mY, .inl (cI, 2600, .inl eY))]) rfl (fun H locs hPn hDn hSn => ?_))
                    clear hP hD hS
                    have hP := hPn
                    have hD := hDn
                    have hS := hSn
                    clear hPn hDn hSn
                    refine lv_iload hx hb dX12_readAt_362 (lv_at hl 1 rfl) ?_
                    refine lv_iload_n hx hb dX12_readAt_364 rfl (lv_at hl 5 rfl) ?_
                    refine lv_iconst (v := 2) hx hb dX12_readAt_365 (by decide) ?_
                    refine lv_iadd hx hb dX12_readAt_366 ?_
                    refine lv_topi (fun x_15 ex_15 => ?_)
                    have tx_15 : x_15.toInt = q.toInt + 2 := v_addR (l2 := 2) (h2 := 2) ex_15 g_q (by decide) (by decide) (by decide)
                    refine lv_icmp_le (tgt := 407) hx hb dX12_readAt_367 (by decide) (fun c_16 => ?_) (fun c_16 => ?_)
                    · have tc_16 : qq.toInt ≤ x_15.toInt := v_le c_16
                      refine lv_iconst (v := 0) hx hb dX12_readAt_407 (by decide) ?_
                      refine lv_istore (lv' := [(6, .int 0), (5, .int x), (4, .int qq), (3, .int x_1), (0, .ref oM), (1, .int cd), (2, .int q)]) hx hb dX12_readAt_408 hl (by decide) rfl (fun ls hl => ?_)
                      refine lv_iload hx hb dX12_readAt_410 (lv_at hl 0 rfl) ?_
                      refine lv_if_eq (tgt := 424) hx hb dX12_readAt_412 (by decide) (fun c_17 => ?_) (fun c_17 => absurd c_17 (by decide))
                      refine lv_iconst (v := 0) hx hb dX12_readAt_424 (by decide) ?_
                      exact kl_i (v := 0) hQQ hx hb hr hlocks hS dX12_readAt_425 ⟨x, kPD_sub hP hD [1, 2, 0] (by decide +kernel) rfl, by decide, by show 0 = 0 ∨ (0 ≤ x.toInt ∧ x.toInt ≤ 65535); omega⟩
                    · have tc_16 : x_15.toInt < qq.toInt := v_nle c_16
                      refine lv_aload_n hx hb dX12_readAt_370 rfl (lv_at hl 3 rfl) ?_
                      refine lv_iload hx hb dX12_readAt_371 (lv_at hl 1 rfl) ?_
                      refine kV_i (rest := []) (q0 := 0) (ci := 12) hcf (m_X12_byteAt l dC dI cI cS H.size oM mT mS mX mL mB mD m1 m2 mR x1 x2 x3 mH mY mE mW mO y1 y2 y3 y4 mZ zt zp zf zh zr zc zy za zb zs zq zw ze zn zm zl zk x eY qq (g_zt) (g_zp) (g_zf) (g_zh) (g_zr) (g_zc) (g_zy) (g_za) (g_zb) (g_zs) (g_zq) (g_zn) (g_zm) (g_zk) (g_eY) (v_rr g_qq (by decide) (by decide))) kc_X12_byteAt gX12_readAt_X12_byteAt rfl rfl rfl ⟨Nat.le_of_ble_eq_true rfl, Nat.le_of_ble_eq_true rfl⟩ kX_t hK hP hD hS hA [1, 2] [0] rfl (by decide +kernel) rfl rfl rfl hl rfl (Nat.le_of_ble_eq_true rfl) dX12_readAt_373 ⟨Nat.le_of_ble_eq_true rfl, Nat.le_of_ble_eq_true rfl⟩ (fun r_18 H locs hB hJ hSn => ?_)
                      obtain ⟨⟨hP1, hD1⟩, hf18_0, hf18_1⟩ := hB
                      obtain ⟨hPn, hDn⟩ := hJ _ hP1 hD1 [(mL, .inl (cI, 512, .inl eL)), (oM, .inr (12, [.ref mT, .int zt, .ref mS, .ref mX, .int zp, .int zf, .ref mL, .ref mB, .ref mD, .ref m1, .ref m2, .int zh, .ref mR, .int zr, .ref x1, .ref x2, .ref x3, .int zc, .ref mH, .int zy, .int za, .int zb, .int zs, .int zq, .int zw, .int ze, .ref mY, .int zn, .ref mE, .int zm, .int zl, .ref mW, .int zk, .ref mO, .int x, .ref y1, .ref y2, .ref y3, .ref y4, .ref mZ])), (mY, .inl (cI, 2600, .inl eY))] rfl
                      clear hP hD hS hJ hP1 hD1
                      have hP := hPn
                      have hD := hDn
                      have hS := hSn
                      clear hPn hDn hSn
                      refine lv_bipush (v := 59) hx hb dX12_readAt_376 (by decide) ?_
                      refine lv_icmp_ne (tgt := 407) hx hb dX12_readAt_378 (by decide) (fun c_19 => ?_) (fun c_19 => ?_)
                      · have tc_19 : ¬ r_18.toInt = 59 := v_ne c_19
                        refine lv_iconst (v := 0) hx hb dX12_readAt_407 (by decide) ?_
                        refine lv_istore (lv' := [(6, .int 0), (5, .int x), (4, .int qq), (3, .int x_1), (0, .ref oM), (1, .int cd), (2, .int q)]) hx hb dX12_readAt_408 hl (by decide) rfl (fun ls hl => ?_)
                        refine lv_iload hx hb dX12_readAt_410 (lv_at hl 0 rfl) ?_
                        refine lv_if_eq (tgt := 424) hx hb dX12_readAt_412 (by decide) (fun c_20 => ?_) (fun c_20 => absurd c_20 (by decide))
                        refine lv_iconst (v := 0) hx hb dX12_readAt_424 (by decide) ?_
                        exact kl_i (v := 0) hQQ hx hb hr hlocks hS dX12_readAt_425 ⟨x, kPD_sub hP hD [1, 2, 0] (by decide +kernel) rfl, by decide, by show 0 = 0 ∨ (0 ≤ x.toInt ∧ x.toInt ≤ 65535); omega⟩
                      · have tc_19 : r_18.toInt = 59 := v_eq c_19
                        refine lv_iload hx hb dX12_readAt_381 (lv_at hl 0 rfl) ?_
                        refine kS_i (rest := []) hcf (m_X12_isLetter l dC dI cI cS H.size x ) kc_X12_isLetter gX12_readAt_X12_isLetter rfl rfl ⟨Nat.le_of_ble_eq_true rfl, Nat.le_of_ble_eq_true rfl⟩ kX_t hK hP hD hS hA [] [0, 1, 2] rfl (by decide +kernel) rfl hl rfl (Nat.le_of_ble_eq_true rfl) dX12_readAt_383 ⟨Nat.le_of_ble_eq_true rfl, Nat.le_of_ble_eq_true rfl⟩ (fun r_21 H locs hB hJ hSn => ?_)
                        obtain ⟨⟨hP1, hD1⟩, hf21_0, hf21_1⟩ := hB
                        obtain ⟨hPn, hDn⟩ := hJ _ hP1 hD1 [(mL, .inl (cI, 512, .inl eL)), (oM, .inr (12, [.ref mT, .int zt, .ref mS, .ref mX, .int zp, .int zf, .ref mL, .ref mB, .ref mD, .ref m1, .ref m2, .int zh, .ref mR, .int zr, .ref x1, .ref x2, .ref x3, .int zc, .ref mH, .int zy, .int za, .int zb, .int zs, .int zq, .int zw, .int ze, .ref mY, .int zn, .ref mE, .int zm, .int zl, .ref mW, .int zk, .ref mO, .int x, .ref y1, .ref y2, .ref y3, .ref y4, .ref mZ])), (mY, .inl (cI, 2600, .inl eY))] rfl
                        clear hP hD hS hJ hP1 hD1
                        have hP := hPn
                        have hD := hDn
                        have hS := hSn
                        clear hPn hDn hSn
                        refine lv_if_eq (tgt := 407) hx hb dX12_readAt_386 (by decide) (fun c_22 => ?_) (fun c_22 => ?_)
                        · have tc_22 : r_21.toInt = 0 := v_eq c_22
                          refine lv_iconst (v := 0) hx hb dX12_readAt_407 (by decide) ?_
                          refine lv_istore (lv' := [(6, .int 0), (5, .int x), (4, .int qq), (3, .int x_1), (0, .ref oM), (1, .int cd), (2, .int q)]) hx hb dX12_readAt_408 hl (by decide) rfl (fun ls hl => ?_)
                          refine lv_iload hx hb dX12_readAt_410 (lv_at hl 0 rfl) ?_
                          refine lv_if_eq (tgt := 424) hx hb dX12_readAt_412 (by decide) (fun c_23 => ?_) (fun c_23 => absurd c_23 (by decide))
                          refine lv_iconst (v := 0) hx hb dX12_readAt_424 (by decide) ?_
                          exact kl_i (v := 0) hQQ hx hb hr hlocks hS dX12_readAt_425 ⟨x, kPD_sub hP hD [1, 2, 0] (by decide +kernel) rfl, by decide, by show 0 = 0 ∨ (0 ≤ x.toInt ∧ x.toInt ≤ 65535); omega⟩
                        · have tc_22 : ¬ r_21.toInt = 0 := v_ne c_22
                          refine lv_iload hx hb dX12_readAt_389 (lv_at hl 0 rfl) ?_
                          refine lv_bipush (v := 38) hx hb dX12_readAt_391 (by decide) ?_
                          refine lv_icmp_eq (tgt := 403) hx hb dX12_readAt_393 (by decide) (fun c_24 => ?_) (fun c_24 => ?_)
                          · have tc_24 : x.toInt = 38 := v_eq c_24
                            refine lv_iconst (v := 1) hx hb dX12_readAt_403 (by decide) ?_
                            refine lv_goto (tgt := 408) hx hb dX12_readAt_404 (by decide) ?_
                            refine lv_istore (lv' := [(6, .int 1), (5, .int x), (4, .int qq), (3, .int x_1), (0, .ref oM), (1, .int cd), (2, .int q)]) hx hb dX12_readAt_408 hl (by decide) rfl (fun ls hl => ?_)
                            refine lv_iload hx hb dX12_readAt_410 (lv_at hl 0 rfl) ?_
                            refine lv_if_eq (tgt := 424) hx hb dX12_readAt_412 (by decide) (fun c_25 => absurd c_25 (by decide)) (fun c_25 => ?_)
                            refine lv_iload hx hb dX12_readAt_415 (lv_at hl 2 rfl) ?_
                            refine lv_iload_n hx hb dX12_readAt_417 rfl (lv_at hl 6 rfl) ?_
                            refine lv_isub hx hb dX12_readAt_418 ?_
                            refine lv_topi (fun x_26 ex_26 => ?_)
                            have tx_26 : x_26.toInt = qq.toInt - q.toInt := v_subR ex_26 g_qq g_q (by decide) (by decide)
                            refine lv_iconst (v := 1) hx hb dX12_readAt_419 (by decide) ?_
                            refine lv_iadd hx hb dX12_readAt_420 ?_
                            refine lv_topi (fun x_27 ex_27 => ?_)
                            have tx_27 : x_27.toInt = x_26.toInt + 1 := v_addR (l2 := 1) (h2 := 1) ex_27 (v_difR (l := (-2597)) (h := 2608) tx_26 g_qq g_q (by decide) (by decide)) (by decide) (by decide) (by decide)
                            refine lv_goto (tgt := 425) hx hb dX12_readAt_421 (by decide) ?_
                            exact kl_i (v := x_27) hQQ hx hb hr hlocks hS dX12_readAt_425 ⟨x, kPD_sub hP hD [1, 2, 0] (by decide +kernel) rfl, by omega, by show x_27.toInt = 0 ∨ (0 ≤ x.toInt ∧ x.toInt ≤ 65535); omega⟩
                          · have tc_24 : ¬ x.toInt = 38 := v_ne c_24
                            refine lv_iload hx hb dX12_readAt_396 (lv_at hl 0 rfl) ?_
                            refine lv_bipush (v := 127) hx hb dX12_readAt_398 (by decide) ?_
                            refine lv_icmp_le (tgt := 407) hx hb dX12_readAt_400 (by decide) (fun c_28 => ?_) (fun c_28 => ?_)
                            · have tc_28 : x.toInt ≤ 127 := v_le c_28
                              refine lv_iconst (v := 0) hx hb dX12_readAt_407 (by decide) ?_
                              refine lv_istore (lv' := [(6, .int 0), (5, .int x), (4, .int qq), (3, .int x_1), (0, .ref oM), (1, .int cd), (2, .int q)]) hx hb dX12_readAt_408 hl (by decide) rfl (fun ls hl => ?_)
                              refine lv_iload hx hb dX12_readAt_410 (lv_at hl 0 rfl) ?_
                              refine lv_if_eq (tgt := 424) hx hb dX12_readAt_412 (by decide) (fun c_29 => ?_) (fun c_29 => absurd c_29 (by decide))
                              refine lv_iconst (v := 0) hx hb dX12_readAt_424 (by decide) ?_
                              exact kl_i (v := 0) hQQ hx hb hr hlocks hS dX12_readAt_425 ⟨x, kPD_sub hP hD [1, 2, 0] (by decide +kernel) rfl, by decide, by show 0 = 0 ∨ (0 ≤ x.toInt ∧ x.toInt ≤ 65535); omega⟩
                            · have tc_28 : 127 < x.toInt := v_nle c_28
                              refine lv_iconst (v := 1) hx hb dX12_readAt_403 (by decide) ?_
                              refine lv_goto (tgt := 408) hx hb dX12_readAt_404 (by decide) ?_
                              refine lv_istore (lv' := [(6, .int 1), (5, .int x), (4, .int qq), (3, .int x_1), (0, .ref oM), (1, .int cd), (2, .int q)]) hx hb dX12_readAt_408 hl (by decide) rfl (fun ls hl => ?_)
                              refine lv_iload hx hb dX12_readAt_410 (lv_at hl 0 rfl) ?_
                              refine lv_if_eq (tgt := 424) hx hb dX12_readAt_412 (by decide) (fun c_30 => absurd c_30 (by decide)) (fun c_30 => ?_)
                              refine lv_iload hx hb dX12_readAt_415 (lv_at hl 2 rfl) ?_
                              refine lv_iload_n hx hb dX12_readAt_417 rfl (lv_at hl 6 rfl) ?_
                              refine lv_isub hx hb dX12_readAt_418 ?_
                              refine lv_topi (fun x_31 ex_31 => ?_)
                              have tx_31 : x_31.toInt = qq.toInt - q.toInt := v_subR ex_31 g_qq g_q (by decide) (by decide)
                              refine lv_iconst (v := 1) hx hb dX12_readAt_419 (by decide) ?_
                              refine lv_iadd hx hb dX12_readAt_420 ?_
                              refine lv_topi (fun x_32 ex_32 => ?_)
                              have tx_32 : x_32.toInt = x_31.toInt + 1 := v_addR (l2 := 1) (h2 := 1) ex_32 (v_difR (l := (-2597)) (h := 2608) tx_31 g_qq g_q (by decide) (by decide)) (by decide) (by decide) (by decide)
                              refine lv_goto (tgt := 425) hx hb dX12_readAt_421 (by decide) ?_
                              exact kl_i (v := x_32) hQQ hx hb hr hlocks hS dX12_readAt_425 ⟨x, kPD_sub hP hD [1, 2, 0] (by decide +kernel) rfl, by omega, by show x_32.toInt = 0 ∨ (0 ≤ x.toInt ∧ x.toInt ≤ 65535); omega⟩
                  · have tc_14 : 48 ≤ r_13.toInt := v_nlt c_14
                    refine lv_aload_n hx hb dX12_readAt_297 rfl (lv_at hl 3 rfl) ?_
                    refine lv_iload hx hb dX12_readAt_298 (lv_at hl 1 rfl) ?_
                    refine kV_i (rest := []) (q0 := 0) (ci := 12) hcf (m_X12_byteAt l dC dI cI cS H.size oM mT mS mX mL mB mD m1 m2 mR x1 x2 x3 mH mY mE mW mO y1 y2 y3 y4 mZ zt zp zf zh zr zc zy za zb zs zq zw ze zn zm zl zk x_1 eY qq (g_zt) (g_zp) (g_zf) (g_zh) (g_zr) (g_zc) (g_zy) (g_za) (g_zb) (g_zs) (g_zq) (g_zn) (g_zm) (g_zk) (g_eY) (v_rr g_qq (by decide) (by decide))) kc_X12_byteAt gX12_readAt_X12_byteAt rfl rfl rfl ⟨Nat.le_of_ble_eq_true rfl, Nat.le_of_ble_eq_true rfl⟩ kX_t hK hP hD hS hA [1, 2] [0] rfl (by decide +kernel) rfl rfl rfl hl rfl (Nat.le_of_ble_eq_true rfl) dX12_readAt_300 ⟨Nat.le_of_ble_eq_true rfl, Nat.le_of_ble_eq_true rfl⟩ (fun r_33 H locs hB hJ hSn => ?_)
                    obtain ⟨⟨hP1, hD1⟩, hf33_0, hf33_1⟩ := hB
                    obtain ⟨hPn, hDn⟩ := hJ _ hP1 hD1 [(mL, .inl (cI, 512, .inl eL)), (oM, .inr (12, [.ref mT, .int zt, .ref mS, .ref mX, .int zp, .int zf, .ref mL, .ref mB, .ref mD, .ref m1, .ref m2, .int zh, .ref mR, .int zr, .ref x1, .ref x2, .ref x3, .int zc, .ref mH, .int zy, .int za, .int zb, .int zs, .int zq, .int zw, .int ze, .ref mY, .int zn, .ref mE, .int zm, .int zl, .ref mW, .int zk, .ref mO, .int x_1, .ref y1, .ref y2, .ref y3, .ref y4, .ref mZ])), (mY, .inl (cI, 2600, .inl eY))] rfl
                    clear hP hD hS hJ hP1 hD1
                    have hP := hPn
                    have hD := hDn
                    have hS := hSn
                    clear hPn hDn hSn
                    refine lv_bipush (v := 57) hx hb dX12_readAt_303 (by decide) ?_
                    refine lv_icmp_gt (tgt := 356) hx hb dX12_readAt_305 (by decide) (fun c_34 => ?_) (fun c_34 => ?_)
                    · have tc_34 : 57 < r_33.toInt := v_lt c_34
                      refine lv_aload_n hx hb dX12_readAt_356 rfl (lv_at hl 3 rfl) ?_
                      refine lv_iload hx hb dX12_readAt_357 (lv_at hl 0 rfl) ?_
                      refine va_put (D := (dC, dI)) (ci := 12) (v := .int x) (ty := .int) (C := RX12) (T := TX12) (N := 40) hx hb hts in_X12 tyX12 tyX12_ok nmX12 hown hK hP hD hS 1 rfl rfl 34 (by decide) (hts (.fieldLink RX12 105 "TextMenderModel" "readLetter" "I") (List.mem_of_getElem? (i := 2) rfl)) (fun _ h9 => h9) rfl (by decide +kernel) rfl rfl (Nat.le_of_ble_eq_true rfl) dX12_readAt_359 (kW (wn := [(mL, .inl (cI, 512, .inl eL)), (oM, .inr (12, [.ref mT, .int zt, .ref mS, .ref mX, .int zp, .int zf, .ref mL, .ref mB, .ref mD, .ref m1, .ref m2, .int zh, .ref mR, .int zr, .ref x1, .ref x2, .ref x3, .int zc, .ref mH, .int zy, .int za, .int zb, .int zs, .int zq, .int zw, .int ze, .ref mY, .int zn, .ref mE, .int zm, .int zl, .ref mW, .int zk, .ref mO, .int x, .ref y1, .ref y2, .ref y3, .ref y4, .ref mZ])), (mY, .inl (cI, 2600, .inl eY))]) rfl (fun H locs hPn hDn hSn => ?_))
                      clear hP hD hS
                      have hP := hPn
                      have hD := hDn
                      have hS := hSn
                      clear hPn hDn hSn
                      refine lv_iload hx hb dX12_readAt_362 (lv_at hl 1 rfl) ?_
                      refine lv_iload_n hx hb dX12_readAt_364 rfl (lv_at hl 5 rfl) ?_
                      refine lv_iconst (v := 2) hx hb dX12_readAt_365 (by decide) ?_
                      refine lv_iadd hx hb dX12_readAt_366 ?_
                      refine lv_topi (fun x_35 ex_35 => ?_)
                      have tx_35 : x_35.toInt = q.toInt + 2 := v_addR (l2 := 2) (h2 := 2) ex_35 g_q (by decide) (by decide) (by decide)
                      refine lv_icmp_le (tgt := 407) hx hb dX12_readAt_367 (by decide) (fun c_36 => ?_) (fun c_36 => ?_)
                      · have tc_36 : qq.toInt ≤ x_35.toInt := v_le c_36
                        refine lv_iconst (v := 0) hx hb dX12_readAt_407 (by decide) ?_
                        refine lv_istore (lv' := [(6, .int 0), (5, .int x), (4, .int qq), (3, .int x_1), (0, .ref oM), (1, .int cd), (2, .int q)]) hx hb dX12_readAt_408 hl (by decide) rfl (fun ls hl => ?_)
                        refine lv_iload hx hb dX12_readAt_410 (lv_at hl 0 rfl) ?_
                        refine lv_if_eq (tgt := 424) hx hb dX12_readAt_412 (by decide) (fun c_37 => ?_) (fun c_37 => absurd c_37 (by decide))
                        refine lv_iconst (v := 0) hx hb dX12_readAt_424 (by decide) ?_
                        exact kl_i (v := 0) hQQ hx hb hr hlocks hS dX12_readAt_425 ⟨x, kPD_sub hP hD [1, 2, 0] (by decide +kernel) rfl, by decide, by show 0 = 0 ∨ (0 ≤ x.toInt ∧ x.toInt ≤ 65535); omega⟩
                      · have tc_36 : x_35.toInt < qq.toInt := v_nle c_36
                        refine lv_aload_n hx hb dX12_readAt_370 rfl (lv_at hl 3 rfl) ?_
                        refine lv_iload hx hb dX12_readAt_371 (lv_at hl 1 rfl) ?_
                        refine kV_i (rest := []) (q0 := 0) (ci := 12) hcf (m_X12_byteAt l dC dI cI cS H.size oM mT mS mX mL mB mD m1 m2 mR x1 x2 x3 mH mY mE mW mO y1 y2 y3 y4 mZ zt zp zf zh zr zc zy za zb zs zq zw ze zn zm zl zk x eY qq (g_zt) (g_zp) (g_zf) (g_zh) (g_zr) (g_zc) (g_zy) (g_za) (g_zb) (g_zs) (g_zq) (g_zn) (g_zm) (g_zk) (g_eY) (v_rr g_qq (by decide) (by decide))) kc_X12_byteAt gX12_readAt_X12_byteAt rfl rfl rfl ⟨Nat.le_of_ble_eq_true rfl, Nat.le_of_ble_eq_true rfl⟩ kX_t hK hP hD hS hA [1, 2] [0] rfl (by decide +kernel) rfl rfl rfl hl rfl (Nat.le_of_ble_eq_true rfl) dX12_readAt_373 ⟨Nat.le_of_ble_eq_true rfl, Nat.le_of_ble_eq_true rfl⟩ (fun r_38 H locs hB hJ hSn => ?_)
                        obtain ⟨⟨hP1, hD1⟩, hf38_0, hf38_1⟩ := hB
                        obtain ⟨hPn, hDn⟩ := hJ _ hP1 hD1 [(mL, .inl (cI, 512, .inl eL)), (oM, .inr (12, [.ref mT, .int zt, .ref mS, .ref mX, .int zp, .int zf, .ref mL, .ref mB, .ref mD, .ref m1, .ref m2, .int zh, .ref mR, .int zr, .ref x1, .ref x2, .ref x3, .int zc, .ref mH, .int zy, .int za, .int zb, .int zs, .int zq, .int zw, .int ze, .ref mY, .int zn, .ref mE, .int zm, .int zl, .ref mW, .int zk, .ref mO, .int x, .ref y1, .ref y2, .ref y3, .ref y4, .ref mZ])), (mY, .inl (cI, 2600, .inl eY))] rfl
                        clear hP hD hS hJ hP1 hD1
                        have hP := hPn
                        have hD := hDn
                        have hS := hSn
                        clear hPn hDn hSn
                        refine lv_bipush (v := 59) hx hb dX12_readAt_376 (by decide) ?_
                        refine lv_icmp_ne (tgt := 407) hx hb dX12_readAt_378 (by decide) (fun c_39 => ?_) (fun c_39 => ?_)
                        · have tc_39 : ¬ r_38.toInt = 59 := v_ne c_39
                          refine lv_iconst (v := 0) hx hb dX12_readAt_407 (by decide) ?_
                          refine lv_istore (lv' := [(6, .int 0), (5, .int x), (4, .int qq), (3, .int x_1), (0, .ref oM), (1, .int cd), (2, .int q)]) hx hb dX12_readAt_408 hl (by decide) rfl (fun ls hl => ?_)
                          refine lv_iload hx hb dX12_readAt_410 (lv_at hl 0 rfl) ?_
                          refine lv_if_eq (tgt := 424) hx hb dX12_readAt_412 (by decide) (fun c_40 => ?_) (fun c_40 => absurd c_40 (by decide))
                          refine lv_iconst (v := 0) hx hb dX12_readAt_424 (by decide) ?_
                          exact kl_i (v := 0) hQQ hx hb hr hlocks hS dX12_readAt_425 ⟨x, kPD_sub hP hD [1, 2, 0] (by decide +kernel) rfl, by decide, by show 0 = 0 ∨ (0 ≤ x.toInt ∧ x.toInt ≤ 65535); omega⟩
                        · have tc_39 : r_38.toInt = 59 := v_eq c_39
                          refine lv_iload hx hb dX12_readAt_381 (lv_at hl 0 rfl) ?_
                          refine kS_i (rest := []) hcf (m_X12_isLetter l dC dI cI cS H.size x ) kc_X12_isLetter gX12_readAt_X12_isLetter rfl rfl ⟨Nat.le_of_ble_eq_true rfl, Nat.le_of_ble_eq_true rfl⟩ kX_t hK hP hD hS hA [] [0, 1, 2] rfl (by decide +kernel) rfl hl rfl (Nat.le_of_ble_eq_true rfl) dX12_readAt_383 ⟨Nat.le_of_ble_eq_true rfl, Nat.le_of_ble_eq_true rfl⟩ (fun r_41 H locs hB hJ hSn => ?_)
                          obtain ⟨⟨hP1, hD1⟩, hf41_0, hf41_1⟩ := hB
                          obtain ⟨hPn, hDn⟩ := hJ _ hP1 hD1 [(mL, .inl (cI, 512, .inl eL)), (oM, .inr (12, [.ref mT, .int zt, .ref mS, .ref mX, .int zp, .int zf, .ref mL, .ref mB, .ref mD, .ref m1, .ref m2, .int zh, .ref mR, .int zr, .ref x1, .ref x2, .ref x3, .int zc, .ref mH, .int zy, .int za, .int zb, .int zs, .int zq, .int zw, .int ze, .ref mY, .int zn, .ref mE, .int zm, .int zl, .ref mW, .int zk, .ref mO, .int x, .ref y1, .ref y2, .ref y3, .ref y4, .ref mZ])), (mY, .inl (cI, 2600, .inl eY))] rfl
                          clear hP hD hS hJ hP1 hD1
                          have hP := hPn
                          have hD := hDn
                          have hS := hSn
                          clear hPn hDn hSn
                          refine lv_if_eq (tgt := 407) hx hb dX12_readAt_386 (by decide) (fun c_42 => ?_) (fun c_42 => ?_)
                          · have tc_42 : r_41.toInt = 0 := v_eq c_42
                            refine lv_iconst (v := 0) hx hb dX12_readAt_407 (by decide) ?_
                            refine lv_istore (lv' := [(6, .int 0), (5, .int x), (4, .int qq), (3, .int x_1), (0, .ref oM), (1, .int cd), (2, .int q)]) hx hb dX12_readAt_408 hl (by decide) rfl (fun ls hl => ?_)
                            refine lv_iload hx hb dX12_readAt_410 (lv_at hl 0 rfl) ?_
                            refine lv_if_eq (tgt := 424) hx hb dX12_readAt_412 (by decide) (fun c_43 => ?_) (fun c_43 => absurd c_43 (by decide))
                            refine lv_iconst (v := 0) hx hb dX12_readAt_424 (by decide) ?_
                            exact kl_i (v := 0) hQQ hx hb hr hlocks hS dX12_readAt_425 ⟨x, kPD_sub hP hD [1, 2, 0] (by decide +kernel) rfl, by decide, by show 0 = 0 ∨ (0 ≤ x.toInt ∧ x.toInt ≤ 65535); omega⟩
                          · have tc_42 : ¬ r_41.toInt = 0 := v_ne c_42
                            refine lv_iload hx hb dX12_readAt_389 (lv_at hl 0 rfl) ?_
                            refine lv_bipush (v := 38) hx hb dX12_readAt_391 (by decide) ?_
                            refine lv_icmp_eq (tgt := 403) hx hb dX12_readAt_393 (by decide) (fun c_44 => ?_) (fun c_44 => ?_)
                            · have tc_44 : x.toInt = 38 := v_eq c_44
                              refine lv_iconst (v := 1) hx hb dX12_readAt_403 (by decide) ?_
                              refine lv_goto (tgt := 408) hx hb dX12_readAt_404 (by decide) ?_
                              refine lv_istore (lv' := [(6, .int 1), (5, .int x), (4, .int qq), (3, .int x_1), (0, .ref oM), (1, .int cd), (2, .int q)]) hx hb dX12_readAt_408 hl (by decide) rfl (fun ls hl => ?_)
                              refine lv_iload hx hb dX12_readAt_410 (lv_at hl 0 rfl) ?_
                              refine lv_if_eq (tgt := 424) hx hb dX12_readAt_412 (by decide) (fun c_45 => absurd c_45 (by decide)) (fun c_45 => ?_)
                              refine lv_iload hx hb dX12_readAt_415 (lv_at hl 2 rfl) ?_
                              refine lv_iload_n hx hb dX12_readAt_417 rfl (lv_at hl 6 rfl) ?_
                              refine lv_isub hx hb dX12_readAt_418 ?_
                              refine lv_topi (fun x_46 ex_46 => ?_)
                              have tx_46 : x_46.toInt = qq.toInt - q.toInt := v_subR ex_46 g_qq g_q (by decide) (by decide)
                              refine lv_iconst (v := 1) hx hb dX12_readAt_419 (by decide) ?_
                              refine lv_iadd hx hb dX12_readAt_420 ?_
                              refine lv_topi (fun x_47 ex_47 => ?_)
                              have tx_47 : x_47.toInt = x_46.toInt + 1 := v_addR (l2 := 1) (h2 := 1) ex_47 (v_difR (l := (-2597)) (h := 2608) tx_46 g_qq g_q (by decide) (by decide)) (by decide) (by decide) (by decide)
                              refine lv_goto (tgt := 425) hx hb dX12_readAt_421 (by decide) ?_
                              exact kl_i (v := x_47) hQQ hx hb hr hlocks hS dX12_readAt_425 ⟨x, kPD_sub hP hD [1, 2, 0] (by decide +kernel) rfl, by omega, by show x_47.toInt = 0 ∨ (0 ≤ x.toInt ∧ x.toInt ≤ 65535); omega⟩
                            · have tc_44 : ¬ x.toInt = 38 := v_ne c_44
                              refine lv_iload hx hb dX12_readAt_396 (lv_at hl 0 rfl) ?_
                              refine lv_bipush (v := 127) hx hb dX12_readAt_398 (by decide) ?_
                              refine lv_icmp_le (tgt := 407) hx hb dX12_readAt_400 (by decide) (fun c_48 => ?_) (fun c_48 => ?_)
                              · have tc_48 : x.toInt ≤ 127 := v_le c_48
                                refine lv_iconst (v := 0) hx hb dX12_readAt_407 (by decide) ?_
                                refine lv_istore (lv' := [(6, .int 0), (5, .int x), (4, .int qq), (3, .int x_1), (0, .ref oM), (1, .int cd), (2, .int q)]) hx hb dX12_readAt_408 hl (by decide) rfl (fun ls hl => ?_)
                                refine lv_iload hx hb dX12_readAt_410 (lv_at hl 0 rfl) ?_
                                refine lv_if_eq (tgt := 424) hx hb dX12_readAt_412 (by decide) (fun c_49 => ?_) (fun c_49 => absurd c_49 (by decide))
                                refine lv_iconst (v := 0) hx hb dX12_readAt_424 (by decide) ?_
                                exact kl_i (v := 0) hQQ hx hb hr hlocks hS dX12_readAt_425 ⟨x, kPD_sub hP hD [1, 2, 0] (by decide +kernel) rfl, by decide, by show 0 = 0 ∨ (0 ≤ x.toInt ∧ x.toInt ≤ 65535); omega⟩
                              · have tc_48 : 127 < x.toInt := v_nle c_48
                                refine lv_iconst (v := 1) hx hb dX12_readAt_403 (by decide) ?_
                                refine lv_goto (tgt := 408) hx hb dX12_readAt_404 (by decide) ?_
                                refine lv_istore (lv' := [(6, .int 1), (5, .int x), (4, .int qq), (3, .int x_1), (0, .ref oM), (1, .int cd), (2, .int q)]) hx hb dX12_readAt_408 hl (by decide) rfl (fun ls hl => ?_)
                                refine lv_iload hx hb dX12_readAt_410 (lv_at hl 0 rfl) ?_
                                refine lv_if_eq (tgt := 424) hx hb dX12_readAt_412 (by decide) (fun c_50 => absurd c_50 (by decide)) (fun c_50 => ?_)
                                refine lv_iload hx hb dX12_readAt_415 (lv_at hl 2 rfl) ?_
                                refine lv_iload_n hx hb dX12_readAt_417 rfl (lv_at hl 6 rfl) ?_
                                refine lv_isub hx hb dX12_readAt_418 ?_
                                refine lv_topi (fun x_51 ex_51 => ?_)
                                have tx_51 : x_51.toInt = qq.toInt - q.toInt := v_subR ex_51 g_qq g_q (by decide) (by decide)
                                refine lv_iconst (v := 1) hx hb dX12_readAt_419 (by decide) ?_
                                refine lv_iadd hx hb dX12_readAt_420 ?_
                                refine lv_topi (fun x_52 ex_52 => ?_)
                                have tx_52 : x_52.toInt = x_51.toInt + 1 := v_addR (l2 := 1) (h2 := 1) ex_52 (v_difR (l := (-2597)) (h := 2608) tx_51 g_qq g_q (by decide) (by decide)) (by decide) (by decide) (by decide)
                                refine lv_goto (tgt := 425) hx hb dX12_readAt_421 (by decide) ?_
                                exact kl_i (v := x_52) hQQ hx hb hr hlocks hS dX12_readAt_425 ⟨x, kPD_sub hP hD [1, 2, 0] (by decide +kernel) rfl, by omega, by show x_52.toInt = 0 ∨ (0 ≤ x.toInt ∧ x.toInt ≤ 65535); omega⟩
                    · have tc_34 : r_33.toInt ≤ 57 := v_nlt c_34
                      refine lv_iload hx hb dX12_readAt_308 (lv_at hl 1 rfl) ?_
                      refine lv_iload_n hx hb dX12_readAt_310 rfl (lv_at hl 5 rfl) ?_
                      refine lv_isub hx hb dX12_readAt_311 ?_
                      refine lv_topi (fun x_53 ex_53 => ?_)
                      have tx_53 : x_53.toInt = qq.toInt - q.toInt := v_subR ex_53 g_qq g_q (by decide) (by decide)
                      refine lv_bipush (v := 8) hx hb dX12_readAt_312 (by decide) ?_
                      refine lv_icmp_ge (tgt := 356) hx hb dX12_readAt_314 (by decide) (fun c_54 => ?_) (fun c_54 => ?_)
                      · have tc_54 : 8 ≤ x_53.toInt := v_le c_54
                        refine lv_aload_n hx hb dX12_readAt_356 rfl (lv_at hl 3 rfl) ?_
                        refine lv_iload hx hb dX12_readAt_357 (lv_at hl 0 rfl) ?_
                        refine va_put (D := (dC, dI)) (ci := 12) (v := .int x) (ty := .int) (C := RX12) (T := TX12) (N := 40) hx hb hts in_X12 tyX12 tyX12_ok nmX12 hown hK hP hD hS 1 rfl rfl 34 (by decide) (hts (.fieldLink RX12 105 "TextMenderModel" "readLetter" "I") (List.mem_of_getElem? (i := 2) rfl)) (fun _ h9 => h9) rfl (by decide +kernel) rfl rfl (Nat.le_of_ble_eq_true rfl) dX12_readAt_359 (kW (wn := [(mL, .inl (cI, 512, .inl eL)), (oM, .inr (12, [.ref mT, .int zt, .ref mS, .ref mX, .int zp, .int zf, .ref mL, .ref mB, .ref mD, .ref m1, .ref m2, .int zh, .ref mR, .int zr, .ref x1, .ref x2, .ref x3, .int zc, .ref mH, .int zy, .int za, .int zb, .int zs, .int zq, .int zw, .int ze, .ref mY, .int zn, .ref mE, .int zm, .int zl, .ref mW, .int zk, .ref mO, .int x, .ref y1, .ref y2, .ref y3, .ref y4, .ref mZ])), (mY, .inl (cI, 2600, .inl eY))]) rfl (fun H locs hPn hDn hSn => ?_))
                        clear hP hD hS
                        have hP := hPn
                        have hD := hDn
                        have hS := hSn
                        clear hPn hDn hSn
                        refine lv_iload hx hb dX12_readAt_362 (lv_at hl 1 rfl) ?_
                        refine lv_iload_n hx hb dX12_readAt_364 rfl (lv_at hl 5 rfl) ?_
                        refine lv_iconst (v := 2) hx hb dX12_readAt_365 (by decide) ?_
                        refine lv_iadd hx hb dX12_readAt_366 ?_
                        refine lv_topi (fun x_55 ex_55 => ?_)
                        have tx_55 : x_55.toInt = q.toInt + 2 := v_addR (l2 := 2) (h2 := 2) ex_55 g_q (by decide) (by decide) (by decide)
                        refine lv_icmp_le (tgt := 407) hx hb dX12_readAt_367 (by decide) (fun c_56 => ?_) (fun c_56 => ?_)
                        · have tc_56 : qq.toInt ≤ x_55.toInt := v_le c_56
                          refine lv_iconst (v := 0) hx hb dX12_readAt_407 (by decide) ?_
                          refine lv_istore (lv' := [(6, .int 0), (5, .int x), (4, .int qq), (3, .int x_1), (0, .ref oM), (1, .int cd), (2, .int q)]) hx hb dX12_readAt_408 hl (by decide) rfl (fun ls hl => ?_)
                          refine lv_iload hx hb dX12_readAt_410 (lv_at hl 0 rfl) ?_
                          refine lv_if_eq (tgt := 424) hx hb dX12_readAt_412 (by decide) (fun c_57 => ?_) (fun c_57 => absurd c_57 (by decide))
                          refine lv_iconst (v := 0) hx hb dX12_readAt_424 (by decide) ?_
                          exact kl_i (v := 0) hQQ hx hb hr hlocks hS dX12_readAt_425 ⟨x, kPD_sub hP hD [1, 2, 0] (by decide +kernel) rfl, by decide, by show 0 = 0 ∨ (0 ≤ x.toInt ∧ x.toInt ≤ 65535); omega⟩
                        · have tc_56 : x_55.toInt < qq.toInt := v_nle c_56
                          refine lv_aload_n hx hb dX12_readAt_370 rfl (lv_at hl 3 rfl) ?_
                          refine lv_iload hx hb dX12_readAt_371 (lv_at hl 1 rfl) ?_
                          refine kV_i (rest := []) (q0 := 0) (ci := 12) hcf (m_X12_byteAt l dC dI cI cS H.size oM mT mS mX mL mB mD m1 m2 mR x1 x2 x3 mH mY mE mW mO y1 y2 y3 y4 mZ zt zp zf zh zr zc zy za zb zs zq zw ze zn zm zl zk x eY qq (g_zt) (g_zp) (g_zf) (g_zh) (g_zr) (g_zc) (g_zy) (g_za) (g_zb) (g_zs) (g_zq) (g_zn) (g_zm) (g_zk) (g_eY) (v_rr g_qq (by decide) (by decide))) kc_X12_byteAt gX12_readAt_X12_byteAt rfl rfl rfl ⟨Nat.le_of_ble_eq_true rfl, Nat.le_of_ble_eq_true rfl⟩ kX_t hK hP hD hS hA [1, 2] [0] rfl (by decide +kernel) rfl rfl rfl hl rfl (Nat.le_of_ble_eq_true rfl) dX12_readAt_373 ⟨Nat.le_of_ble_eq_true rfl, Nat.le_of_ble_eq_true rfl⟩ (fun r_58 H locs hB hJ hSn => ?_)
                          obtain ⟨⟨hP1, hD1⟩, hf58_0, hf58_1⟩ := hB
                          obtain ⟨hPn, hDn⟩ := hJ _ hP1 hD1 [(mL, .inl (cI, 512, .inl eL)), (oM, .inr (12, [.ref mT, .int zt, .ref mS, .ref mX, .int zp, .int zf, .ref mL, .ref mB, .ref mD, .ref m1, .ref m2, .int zh, .ref mR, .int zr, .ref x1, .ref x2, .ref x3, .int zc, .ref mH, .int zy, .int za, .int zb, .int zs, .int zq, .int zw, .int ze, .ref mY, .int zn, .ref mE, .int zm, .int zl, .ref mW, .int zk, .ref mO, .int x, .ref y1, .ref y2, .ref y3, .ref y4, .ref mZ])), (mY, .inl (cI, 2600, .inl eY))] rfl
                          clear hP hD hS hJ hP1 hD1
                          have hP := hPn
                          have hD := hDn
                          have hS := hSn
                          clear hPn hDn hSn
                          refine lv_bipush (v := 59) hx hb dX12_readAt_376 (by decide) ?_
                          refine lv_icmp_ne (tgt := 407) hx hb dX12_readAt_378 (by decide) (fun c_59 => ?_) (fun c_59 => ?_)
                          · have tc_59 : ¬ r_58.toInt = 59 := v_ne c_59
                            refine lv_iconst (v := 0) hx hb dX12_readAt_407 (by decide) ?_
                            refine lv_istore (lv' := [(6, .int 0), (5, .int x), (4, .int qq), (3, .int x_1), (0, .ref oM), (1, .int cd), (2, .int q)]) hx hb dX12_readAt_408 hl (by decide) rfl (fun ls hl => ?_)
                            refine lv_iload hx hb dX12_readAt_410 (lv_at hl 0 rfl) ?_
                            refine lv_if_eq (tgt := 424) hx hb dX12_readAt_412 (by decide) (fun c_60 => ?_) (fun c_60 => absurd c_60 (by decide))
                            refine lv_iconst (v := 0) hx hb dX12_readAt_424 (by decide) ?_
                            exact kl_i (v := 0) hQQ hx hb hr hlocks hS dX12_readAt_425 ⟨x, kPD_sub hP hD [1, 2, 0] (by decide +kernel) rfl, by decide, by show 0 = 0 ∨ (0 ≤ x.toInt ∧ x.toInt ≤ 65535); omega⟩
                          · have tc_59 : r_58.toInt = 59 := v_eq c_59
                            refine lv_iload hx hb dX12_readAt_381 (lv_at hl 0 rfl) ?_
                            refine kS_i (rest := []) hcf (m_X12_isLetter l dC dI cI cS H.size x ) kc_X12_isLetter gX12_readAt_X12_isLetter rfl rfl ⟨Nat.le_of_ble_eq_true rfl, Nat.le_of_ble_eq_true rfl⟩ kX_t hK hP hD hS hA [] [0, 1, 2] rfl (by decide +kernel) rfl hl rfl (Nat.le_of_ble_eq_true rfl) dX12_readAt_383 ⟨Nat.le_of_ble_eq_true rfl, Nat.le_of_ble_eq_true rfl⟩ (fun r_61 H locs hB hJ hSn => ?_)
                            obtain ⟨⟨hP1, hD1⟩, hf61_0, hf61_1⟩ := hB
                            obtain ⟨hPn, hDn⟩ := hJ _ hP1 hD1 [(mL, .inl (cI, 512, .inl eL)), (oM, .inr (12, [.ref mT, .int zt, .ref mS, .ref mX, .int zp, .int zf, .ref mL, .ref mB, .ref mD, .ref m1, .ref m2, .int zh, .ref mR, .int zr, .ref x1, .ref x2, .ref x3, .int zc, .ref mH, .int zy, .int za, .int zb, .int zs, .int zq, .int zw, .int ze, .ref mY, .int zn, .ref mE, .int zm, .int zl, .ref mW, .int zk, .ref mO, .int x, .ref y1, .ref y2, .ref y3, .ref y4, .ref mZ])), (mY, .inl (cI, 2600, .inl eY))] rfl
                            clear hP hD hS hJ hP1 hD1
                            have hP := hPn
                            have hD := hDn
                            have hS := hSn
                            clear hPn hDn hSn
                            refine lv_if_eq (tgt := 407) hx hb dX12_readAt_386 (by decide) (fun c_62 => ?_) (fun c_62 => ?_)
                            · have tc_62 : r_61.toInt = 0 := v_eq c_62
                              refine lv_iconst (v := 0) hx hb dX12_readAt_407 (by decide) ?_
                              refine lv_istore (lv' := [(6, .int 0), (5, .int x), (4, .int qq), (3, .int x_1), (0, .ref oM), (1, .int cd), (2, .int q)]) hx hb dX12_readAt_408 hl (by decide) rfl (fun ls hl => ?_)
                              refine lv_iload hx hb dX12_readAt_410 (lv_at hl 0 rfl) ?_
                              refine lv_if_eq (tgt := 424) hx hb dX12_readAt_412 (by decide) (fun c_63 => ?_) (fun c_63 => absurd c_63 (by decide))
                              refine lv_iconst (v := 0) hx hb dX12_readAt_424 (by decide) ?_
                              exact kl_i (v := 0) hQQ hx hb hr hlocks hS dX12_readAt_425 ⟨x, kPD_sub hP hD [1, 2, 0] (by decide +kernel) rfl, by decide, by show 0 = 0 ∨ (0 ≤ x.toInt ∧ x.toInt ≤ 65535); omega⟩
                            · have tc_62 : ¬ r_61.toInt = 0 := v_ne c_62
                              refine lv_iload hx hb dX12_readAt_389 (lv_at hl 0 rfl) ?_
                              refine lv_bipush (v := 38) hx hb dX12_readAt_391 (by decide) ?_
                              refine lv_icmp_eq (tgt := 403) hx hb dX12_readAt_393 (by decide) (fun c_64 => ?_) (fun c_64 => ?_)
                              · have tc_64 : x.toInt = 38 := v_eq c_64
                                refine lv_iconst (v := 1) hx hb dX12_readAt_403 (by decide) ?_
                                refine lv_goto (tgt := 408) hx hb dX12_readAt_404 (by decide) ?_
                                refine lv_istore (lv' := [(6, .int 1), (5, .int x), (4, .int qq), (3, .int x_1), (0, .ref oM), (1, .int cd), (2, .int q)]) hx hb dX12_readAt_408 hl (by decide) rfl (fun ls hl => ?_)
                                refine lv_iload hx hb dX12_readAt_410 (lv_at hl 0 rfl) ?_
                                refine lv_if_eq (tgt := 424) hx hb dX12_readAt_412 (by decide) (fun c_65 => absurd c_65 (by decide)) (fun c_65 => ?_)
                                refine lv_iload hx hb dX12_readAt_415 (lv_at hl 2 rfl) ?_
                                refine lv_iload_n hx hb dX12_readAt_417 rfl (lv_at hl 6 rfl) ?_
                                refine lv_isub hx hb dX12_readAt_418 ?_
                                refine lv_topi (fun x_66 ex_66 => ?_)
                                have tx_66 : x_66.toInt = qq.toInt - q.toInt := v_subR ex_66 g_qq g_q (by decide) (by decide)
                                refine lv_iconst (v := 1) hx hb dX12_readAt_419 (by decide) ?_
                                refine lv_iadd hx hb dX12_readAt_420 ?_
                                refine lv_topi (fun x_67 ex_67 => ?_)
                                have tx_67 : x_67.toInt = x_66.toInt + 1 := v_addR (l2 := 1) (h2 := 1) ex_67 (v_difR (l := (-2597)) (h := 2608) tx_66 g_qq g_q (by decide) (by decide)) (by decide) (by decide) (by decide)
                                refine lv_goto (tgt := 425) hx hb dX12_readAt_421 (by decide) ?_
                                exact kl_i (v := x_67) hQQ hx hb hr hlocks hS dX12_readAt_425 ⟨x, kPD_sub hP hD [1, 2, 0] (by decide +kernel) rfl, by omega, by show x_67.toInt = 0 ∨ (0 ≤ x.toInt ∧ x.toInt ≤ 65535); omega⟩
                              · have tc_64 : ¬ x.toInt = 38 := v_ne c_64
                                refine lv_iload hx hb dX12_readAt_396 (lv_at hl 0 rfl) ?_
                                refine lv_bipush (v := 127) hx hb dX12_readAt_398 (by decide) ?_
                                refine lv_icmp_le (tgt := 407) hx hb dX12_readAt_400 (by decide) (fun c_68 => ?_) (fun c_68 => ?_)
                                · have tc_68 : x.toInt ≤ 127 := v_le c_68
                                  refine lv_iconst (v := 0) hx hb dX12_readAt_407 (by decide) ?_
                                  refine lv_istore (lv' := [(6, .int 0), (5, .int x), (4, .int qq), (3, .int x_1), (0, .ref oM), (1, .int cd), (2, .int q)]) hx hb dX12_readAt_408 hl (by decide) rfl (fun ls hl => ?_)
                                  refine lv_iload hx hb dX12_readAt_410 (lv_at hl 0 rfl) ?_
                                  refine lv_if_eq (tgt := 424) hx hb dX12_readAt_412 (by decide) (fun c_69 => ?_) (fun c_69 => absurd c_69 (by decide))
                                  refine lv_iconst (v := 0) hx hb dX12_readAt_424 (by decide) ?_
                                  exact kl_i (v := 0) hQQ hx hb hr hlocks hS dX12_readAt_425 ⟨x, kPD_sub hP hD [1, 2, 0] (by decide +kernel) rfl, by decide, by show 0 = 0 ∨ (0 ≤ x.toInt ∧ x.toInt ≤ 65535); omega⟩
                                · have tc_68 : 127 < x.toInt := v_nle c_68
                                  refine lv_iconst (v := 1) hx hb dX12_readAt_403 (by decide) ?_
                                  refine lv_goto (tgt := 408) hx hb dX12_readAt_404 (by decide) ?_
                                  refine lv_istore (lv' := [(6, .int 1), (5, .int x), (4, .int qq), (3, .int x_1), (0, .ref oM), (1, .int cd), (2, .int q)]) hx hb dX12_readAt_408 hl (by decide) rfl (fun ls hl => ?_)
                                  refine lv_iload hx hb dX12_readAt_410 (lv_at hl 0 rfl) ?_
                                  refine lv_if_eq (tgt := 424) hx hb dX12_readAt_412 (by decide) (fun c_70 => absurd c_70 (by decide)) (fun c_70 => ?_)
                                  refine lv_iload hx hb dX12_readAt_415 (lv_at hl 2 rfl) ?_
                                  refine lv_iload_n hx hb dX12_readAt_417 rfl (lv_at hl 6 rfl) ?_
                                  refine lv_isub hx hb dX12_readAt_418 ?_
                                  refine lv_topi (fun x_71 ex_71 => ?_)
                                  have tx_71 : x_71.toInt = qq.toInt - q.toInt := v_subR ex_71 g_qq g_q (by decide) (by decide)
                                  refine lv_iconst (v := 1) hx hb dX12_readAt_419 (by decide) ?_
                                  refine lv_iadd hx hb dX12_readAt_420 ?_
                                  refine lv_topi (fun x_72 ex_72 => ?_)
                                  have tx_72 : x_72.toInt = x_71.toInt + 1 := v_addR (l2 := 1) (h2 := 1) ex_72 (v_difR (l := (-2597)) (h := 2608) tx_71 g_qq g_q (by decide) (by decide)) (by decide) (by decide) (by decide)
                                  refine lv_goto (tgt := 425) hx hb dX12_readAt_421 (by decide) ?_
                                  exact kl_i (v := x_72) hQQ hx hb hr hlocks hS dX12_readAt_425 ⟨x, kPD_sub hP hD [1, 2, 0] (by decide +kernel) rfl, by omega, by show x_72.toInt = 0 ∨ (0 ≤ x.toInt ∧ x.toInt ≤ 65535); omega⟩
                      · have tc_54 : x_53.toInt < 8 := v_nle c_54
                        refine lv_iload hx hb dX12_readAt_317 (lv_at hl 0 rfl) ?_
                        refine lv_if_ne (tgt := 332) hx hb dX12_readAt_319 (by decide) (fun c_73 => ?_) (fun c_73 => ?_)
                        · have tc_73 : ¬ x.toInt = 0 := v_ne c_73
                          refine lv_bipush (v := 10) hx hb dX12_readAt_332 (by decide) ?_
                          refine lv_iload hx hb dX12_readAt_334 (lv_at hl 0 rfl) ?_
                          refine lv_imul hx hb dX12_readAt_336 ?_
                          refine lv_topi (fun x_74 ex_74 => ?_)
                          have rv74_1 := v_rng x
                          refine lv_aload_n hx hb dX12_readAt_337 rfl (lv_at hl 3 rfl) ?_
                          refine va_get (D := (dC, dI)) (ci := 12) (v := .ref mY) (C := RX12) (T := TX12) (N := 40) hx hb hts in_X12 hown hK hP 1 rfl rfl 26 (by decide) (hts (.fieldLink RX12 58 "TextMenderModel" "bytes" "[I") (List.mem_of_getElem? (i := 1) rfl)) (fun _ h9 => h9) rfl dX12_readAt_338 ?_
                          refine lv_iload hx hb dX12_readAt_341 (lv_at hl 1 rfl) ?_
                          refine va_iald hx hb hK hP 2 0 rfl rfl (v_in (by omega)) dX12_readAt_343 ?_
                          refine lv_topi (fun x_75 ex_75 => ?_)
                          have tx_75 : 0 ≤ x_75.toInt ∧ x_75.toInt ≤ 255 := rg_at g_eY ex_75
                          refine lv_iadd hx hb dX12_readAt_344 ?_
                          refine lv_topi (fun x_76 ex_76 => ?_)
                          have rv76_0 := v_rng x_74
                          refine lv_bipush (v := 48) hx hb dX12_readAt_345 (by decide) ?_
                          refine lv_isub hx hb dX12_readAt_347 ?_
                          refine lv_topi (fun x_77 ex_77 => ?_)
                          have rv77_0 := v_rng x_76
                          refine lv_istore (lv' := [(5, .int x_77), (4, .int qq), (3, .int x_1), (0, .ref oM), (1, .int cd), (2, .int q)]) hx hb dX12_readAt_348 hl (by decide) rfl (fun ls hl => ?_)
                          obtain ⟨x_78, ex_78⟩ : ∃ y : Int32, y = qq + 1 := ⟨_, rfl⟩
                          have tx_78 : x_78.toInt = qq.toInt + 1 := v_addR (l2 := 1) (h2 := 1) ex_78 g_qq (by decide) (by decide) (by decide)
                          refine lv_iinc (v := x_78) (lv' := [(4, .int x_78), (5, .int x_77), (3, .int x_1), (0, .ref oM), (1, .int cd), (2, .int q)]) hx hb dX12_readAt_350 hl (k := 1) rfl (by rw [ex_78]; rfl) (by decide) rfl (fun ls hl => ?_)
                          refine lv_goto (tgt := 286) hx hb dX12_readAt_353 (by decide) ?_
                          exact ih_286 x_78 x_77 _ _ _ (ms_lt hm_286 (by show ((q.toInt + 8 - x_78.toInt : Int)) < q.toInt + 8 - qq.toInt; omega) (by show (0 : Int) < q.toInt + 8 - qq.toInt; omega)) (by show 2 ≤ x_78.toInt ∧ x_78.toInt ≤ 2608; omega) (by show q.toInt + 2 ≤ x_78.toInt ∧ x_78.toInt ≤ q.toInt + 8; omega) hP hD hS (lv_sub hl [1, 0, 2, 3, 4, 5] rfl)
                        · have tc_73 : x.toInt = 0 := v_eq c_73
                          refine lv_iload hx hb dX12_readAt_322 (lv_at hl 1 rfl) ?_
                          refine lv_iload_n hx hb dX12_readAt_324 rfl (lv_at hl 5 rfl) ?_
                          refine lv_iconst (v := 2) hx hb dX12_readAt_325 (by decide) ?_
                          refine lv_iadd hx hb dX12_readAt_326 ?_
                          refine lv_topi (fun x_79 ex_79 => ?_)
                          have tx_79 : x_79.toInt = q.toInt + 2 := v_addR (l2 := 2) (h2 := 2) ex_79 g_q (by decide) (by decide) (by decide)
                          refine lv_icmp_le (tgt := 332) hx hb dX12_readAt_327 (by decide) (fun c_80 => ?_) (fun c_80 => ?_)
                          · have tc_80 : qq.toInt ≤ x_79.toInt := v_le c_80
                            refine lv_bipush (v := 10) hx hb dX12_readAt_332 (by decide) ?_
                            refine lv_iload hx hb dX12_readAt_334 (lv_at hl 0 rfl) ?_
                            refine lv_imul hx hb dX12_readAt_336 ?_
                            refine lv_topi (fun x_81 ex_81 => ?_)
                            have tx_81 : x_81.toInt = 10 * x.toInt := v_mul ex_81 (by show -2147483648 ≤ 10 * x.toInt; omega) (by show 10 * x.toInt < 2147483648; omega)
                            refine lv_aload_n hx hb dX12_readAt_337 rfl (lv_at hl 3 rfl) ?_
                            refine va_get (D := (dC, dI)) (ci := 12) (v := .ref mY) (C := RX12) (T := TX12) (N := 40) hx hb hts in_X12 hown hK hP 1 rfl rfl 26 (by decide) (hts (.fieldLink RX12 58 "TextMenderModel" "bytes" "[I") (List.mem_of_getElem? (i := 1) rfl)) (fun _ h9 => h9) rfl dX12_readAt_338 ?_
                            refine lv_iload hx hb dX12_readAt_341 (lv_at hl 1 rfl) ?_
                            refine va_iald hx hb hK hP 2 0 rfl rfl (v_in (by omega)) dX12_readAt_343 ?_
                            refine lv_topi (fun x_82 ex_82 => ?_)
                            have tx_82 : 0 ≤ x_82.toInt ∧ x_82.toInt ≤ 255 := rg_at g_eY ex_82
                            refine lv_iadd hx hb dX12_readAt_344 ?_
                            refine lv_topi (fun x_83 ex_83 => ?_)
                            have tx_83 : x_83.toInt = x_81.toInt + x_82.toInt := v_add ex_83 (by show -2147483648 ≤ x_81.toInt + x_82.toInt; omega) (by show x_81.toInt + x_82.toInt < 2147483648; omega)
                            refine lv_bipush (v := 48) hx hb dX12_readAt_345 (by decide) ?_
                            refine lv_isub hx hb dX12_readAt_347 ?_
                            refine lv_topi (fun x_84 ex_84 => ?_)
                            have tx_84 : x_84.toInt = x_83.toInt - 48 := v_sub ex_84 (by show -2147483648 ≤ x_83.toInt - 48; omega) (by show x_83.toInt - 48 < 2147483648; omega)
                            refine lv_istore (lv' := [(5, .int x_84), (4, .int qq), (3, .int x_1), (0, .ref oM), (1, .int cd), (2, .int q)]) hx hb dX12_readAt_348 hl (by decide) rfl (fun ls hl => ?_)
                            obtain ⟨x_85, ex_85⟩ : ∃ y : Int32, y = qq + 1 := ⟨_, rfl⟩
                            have tx_85 : x_85.toInt = qq.toInt + 1 := v_addR (l2 := 1) (h2 := 1) ex_85 g_qq (by decide) (by decide) (by decide)
                            refine lv_iinc (v := x_85) (lv' := [(4, .int x_85), (5, .int x_84), (3, .int x_1), (0, .ref oM), (1, .int cd), (2, .int q)]) hx hb dX12_readAt_350 hl (k := 1) rfl (by rw [ex_85]; rfl) (by decide) rfl (fun ls hl => ?_)
                            refine lv_goto (tgt := 286) hx hb dX12_readAt_353 (by decide) ?_
                            exact ih_286 x_85 x_84 _ _ _ (ms_lt hm_286 (by show ((q.toInt + 8 - x_85.toInt : Int)) < q.toInt + 8 - qq.toInt; omega) (by show (0 : Int) < q.toInt + 8 - qq.toInt; omega)) (by show 2 ≤ x_85.toInt ∧ x_85.toInt ≤ 2608; omega) (by show q.toInt + 2 ≤ x_85.toInt ∧ x_85.toInt ≤ q.toInt + 8; omega) hP hD hS (lv_sub hl [1, 0, 2, 3, 4, 5] rfl)
                          · have tc_80 : x_79.toInt < qq.toInt := v_nle c_80
                            refine lv_iconst (v := 0) hx hb dX12_readAt_330 (by decide) ?_
                            exact kl_i (v := 0) hQQ hx hb hr hlocks hS dX12_readAt_331 ⟨x_1, kPD_sub hP hD [1, 2, 0] (by decide +kernel) rfl, by decide, by show 0 = 0 ∨ (0 ≤ x_1.toInt ∧ x_1.toInt ≤ 65535); omega⟩
              exact LOOP_286 _ x_12 0 _ _ _ (ms_s _) (v_rr (v_sumR (l := 2) (h := 2601) (l2 := 2) (h2 := 2) tx_12 g_q (by decide) (by decide) (by decide)) (by decide) (by decide)) (by show q.toInt + 2 ≤ x_12.toInt ∧ x_12.toInt ≤ q.toInt + 8; omega) hP hD hS (lv_sub hl [0, 1, 2, 3, 4, 5] rfl)
            · have tc_11 : ¬ r_10.toInt = 35 := v_ne c_11
              refine lv_iconst (v := 0) hx hb dX12_readAt_276 (by decide) ?_
              exact kl_i (v := 0) hQQ hx hb hr hlocks hS dX12_readAt_277 ⟨x_1, kPD_sub hP hD [1, 2, 0] (by decide +kernel) rfl, by decide, by show 0 = 0 ∨ (0 ≤ x_1.toInt ∧ x_1.toInt ≤ 65535); omega⟩
          · have tc_7 : ¬ x_1.toInt = 38 := v_ne c_7
            refine lv_iconst (v := 1) hx hb dX12_readAt_107 (by decide) ?_
            exact kl_i (v := 1) hQQ hx hb hr hlocks hS dX12_readAt_108 ⟨x_1, ⟨hP, hD⟩, by decide, by show 1 = 0 ∨ (0 ≤ x_1.toInt ∧ x_1.toInt ≤ 65535); omega⟩
      · have tc_4 : 127 < x_1.toInt := v_nle c_4
        refine lv_iload_n hx hb dX12_readAt_82 rfl (lv_at hl 2 rfl) ?_
        refine lv_iconst (v := 3) hx hb dX12_readAt_83 (by decide) ?_
        refine lv_icmp_ne (tgt := 89) hx hb dX12_readAt_84 (by decide) (fun c_86 => ?_) (fun c_86 => ?_)
        · have tc_86 : ¬ cd.toInt = 3 := v_ne c_86
          refine lv_iload_n hx hb dX12_readAt_89 rfl (lv_at hl 0 rfl) ?_
          refine lv_sipush (v := 128) hx hb dX12_readAt_90 (by decide) ?_
          refine lv_icmp_ge (tgt := 109) hx hb dX12_readAt_93 (by decide) (fun c_87 => ?_) (fun c_87 => by exfalso; have tc_87 : x_1.toInt < 128 := v_nle c_87; omega)
          have tc_87 : 128 ≤ x_1.toInt := v_le c_87
          refine lv_iload_n hx hb dX12_readAt_109 rfl (lv_at hl 2 rfl) ?_
          refine lv_iconst (v := 2) hx hb dX12_readAt_110 (by decide) ?_
          refine lv_icmp_ne (tgt := 264) hx hb dX12_readAt_111 (by decide) (fun c_88 => by exfalso; have tc_88 : ¬ cd.toInt = 2 := v_ne c_88; omega) (fun c_88 => ?_)
          have tc_88 : cd.toInt = 2 := v_eq c_88
          refine lv_aload_n hx hb dX12_readAt_114 rfl (lv_at hl 1 rfl) ?_
          refine lv_iload_n hx hb dX12_readAt_115 rfl (lv_at hl 3 rfl) ?_
          refine lv_iconst (v := 1) hx hb dX12_readAt_116 (by decide) ?_
          refine lv_iadd hx hb dX12_readAt_117 ?_
          refine lv_topi (fun x_89 ex_89 => ?_)
          have tx_89 : x_89.toInt = q.toInt + 1 := v_addR (l2 := 1) (h2 := 1) ex_89 g_q (by decide) (by decide) (by decide)
          refine kV_i (rest := []) (q0 := 0) (ci := 12) hcf (m_X12_byteAt l dC dI cI cS H.size oM mT mS mX mL mB mD m1 m2 mR x1 x2 x3 mH mY mE mW mO y1 y2 y3 y4 mZ zt zp zf zh zr zc zy za zb zs zq zw ze zn zm zl zk x_1 eY x_89 (g_zt) (g_zp) (g_zf) (g_zh) (g_zr) (g_zc) (g_zy) (g_za) (g_zb) (g_zs) (g_zq) (g_zn) (g_zm) (g_zk) (g_eY) (v_rr (v_sumR (l := 1) (h := 2600) (l2 := 1) (h2 := 1) tx_89 g_q (by decide) (by decide) (by decide)) (by decide) (by decide))) kc_X12_byteAt gX12_readAt_X12_byteAt rfl rfl rfl ⟨Nat.le_of_ble_eq_true rfl, Nat.le_of_ble_eq_true rfl⟩ kX_t hK hP hD hS hA [0, 1] [2] rfl (by decide +kernel) rfl rfl rfl hl rfl (Nat.le_of_ble_eq_true rfl) dX12_readAt_118 ⟨Nat.le_of_ble_eq_true rfl, Nat.le_of_ble_eq_true rfl⟩ (fun r_90 H locs hB hJ hSn => ?_)
          obtain ⟨⟨hP1, hD1⟩, hf90_0, hf90_1⟩ := hB
          obtain ⟨hPn, hDn⟩ := hJ _ hP1 hD1 [(mL, .inl (cI, 512, .inl eL)), (oM, .inr (12, [.ref mT, .int zt, .ref mS, .ref mX, .int zp, .int zf, .ref mL, .ref mB, .ref mD, .ref m1, .ref m2, .int zh, .ref mR, .int zr, .ref x1, .ref x2, .ref x3, .int zc, .ref mH, .int zy, .int za, .int zb, .int zs, .int zq, .int zw, .int ze, .ref mY, .int zn, .ref mE, .int zm, .int zl, .ref mW, .int zk, .ref mO, .int x_1, .ref y1, .ref y2, .ref y3, .ref y4, .ref mZ])), (mY, .inl (cI, 2600, .inl eY))] rfl
          clear hP hD hS hJ hP1 hD1
          have hP := hPn
          have hD := hDn
          have hS := hSn
          clear hPn hDn hSn
          refine lv_istore (lv' := [(4, .int r_90), (3, .int x_1), (0, .ref oM), (1, .int cd), (2, .int q)]) hx hb dX12_readAt_121 hl (by decide) rfl (fun ls hl => ?_)
          refine lv_iload_n hx hb dX12_readAt_123 rfl (lv_at hl 1 rfl) ?_
          refine lv_sipush (v := 192) hx hb dX12_readAt_124 (by decide) ?_
          refine lv_icmp_lt (tgt := 145) hx hb dX12_readAt_127 (by decide) (fun c_91 => ?_) (fun c_91 => ?_)
          · have tc_91 : x_1.toInt < 192 := v_lt c_91
            refine lv_iconst (v := 0) hx hb dX12_readAt_145 (by decide) ?_
            exact kl_i (v := 0) hQQ hx hb hr hlocks hS dX12_readAt_146 ⟨x_1, kPD_sub hP hD [1, 2, 0] (by decide +kernel) rfl, by decide, by show 0 = 0 ∨ (0 ≤ x_1.toInt ∧ x_1.toInt ≤ 65535); omega⟩
          · have tc_91 : 192 ≤ x_1.toInt := v_nlt c_91
            refine lv_iload_n hx hb dX12_readAt_130 rfl (lv_at hl 1 rfl) ?_
            refine lv_sipush (v := 239) hx hb dX12_readAt_131 (by decide) ?_
            refine lv_icmp_gt (tgt := 145) hx hb dX12_readAt_134 (by decide) (fun c_92 => ?_) (fun c_92 => ?_)
            · have tc_92 : 239 < x_1.toInt := v_lt c_92
              refine lv_iconst (v := 0) hx hb dX12_readAt_145 (by decide) ?_
              exact kl_i (v := 0) hQQ hx hb hr hlocks hS dX12_readAt_146 ⟨x_1, kPD_sub hP hD [1, 2, 0] (by decide +kernel) rfl, by decide, by show 0 = 0 ∨ (0 ≤ x_1.toInt ∧ x_1.toInt ≤ 65535); omega⟩
            · have tc_92 : x_1.toInt ≤ 239 := v_nlt c_92
              refine lv_iload hx hb dX12_readAt_137 (lv_at hl 0 rfl) ?_
              refine kS_i (rest := []) hcf (m_X12_goesOn l dC dI cI cS H.size r_90 ) kc_X12_goesOn gX12_readAt_X12_goesOn rfl rfl ⟨Nat.le_of_ble_eq_true rfl, Nat.le_of_ble_eq_true rfl⟩ kX_t hK hP hD hS hA [] [0, 1, 2] rfl (by decide +kernel) rfl hl rfl (Nat.le_of_ble_eq_true rfl) dX12_readAt_139 ⟨Nat.le_of_ble_eq_true rfl, Nat.le_of_ble_eq_true rfl⟩ (fun r_93 H locs hB hJ hSn => ?_)
              obtain ⟨⟨hP1, hD1⟩, hf93_0, hf93_1⟩ := hB
              obtain ⟨hPn, hDn⟩ := hJ _ hP1 hD1 [(mL, .inl (cI, 512, .inl eL)), (oM, .inr (12, [.ref mT, .int zt, .ref mS, .ref mX, .int zp, .int zf, .ref mL, .ref mB, .ref mD, .ref m1, .ref m2, .int zh, .ref mR, .int zr, .ref x1, .ref x2, .ref x3, .int zc, .ref mH, .int zy, .int za, .int zb, .int zs, .int zq, .int zw, .int ze, .ref mY, .int zn, .ref mE, .int zm, .int zl, .ref mW, .int zk, .ref mO, .int x_1, .ref y1, .ref y2, .ref y3, .ref y4, .ref mZ])), (mY, .inl (cI, 2600, .inl eY))] rfl
              clear hP hD hS hJ hP1 hD1
              have hP := hPn
              have hD := hDn
              have hS := hSn
              clear hPn hDn hSn
              refine lv_if_ne (tgt := 147) hx hb dX12_readAt_142 (by decide) (fun c_94 => ?_) (fun c_94 => ?_)
              · have tc_94 : ¬ r_93.toInt = 0 := v_ne c_94
                refine lv_iload_n hx hb dX12_readAt_147 rfl (lv_at hl 1 rfl) ?_
                refine lv_sipush (v := 224) hx hb dX12_readAt_148 (by decide) ?_
                refine lv_icmp_ge (tgt := 189) hx hb dX12_readAt_151 (by decide) (fun c_95 => ?_) (fun c_95 => ?_)
                · have tc_95 : 224 ≤ x_1.toInt := v_le c_95
                  refine lv_aload_n hx hb dX12_readAt_189 rfl (lv_at hl 2 rfl) ?_
                  refine lv_iload_n hx hb dX12_readAt_190 rfl (lv_at hl 4 rfl) ?_
                  refine lv_iconst (v := 2) hx hb dX12_readAt_191 (by decide) ?_
                  refine lv_iadd hx hb dX12_readAt_192 ?_
                  refine lv_topi (fun x_96 ex_96 => ?_)
                  have tx_96 : x_96.toInt = q.toInt + 2 := v_addR (l2 := 2) (h2 := 2) ex_96 g_q (by decide) (by decide) (by decide)
                  refine kV_i (rest := []) (q0 := 0) (ci := 12) hcf (m_X12_byteAt l dC dI cI cS H.size oM mT mS mX mL mB mD m1 m2 mR x1 x2 x3 mH mY mE mW mO y1 y2 y3 y4 mZ zt zp zf zh zr zc zy za zb zs zq zw ze zn zm zl zk x_1 eY x_96 (g_zt) (g_zp) (g_zf) (g_zh) (g_zr) (g_zc) (g_zy) (g_za) (g_zb) (g_zs) (g_zq) (g_zn) (g_zm) (g_zk) (g_eY) (v_rr (v_sumR (l := 2) (h := 2601) (l2 := 2) (h2 := 2) tx_96 g_q (by decide) (by decide) (by decide)) (by decide) (by decide))) kc_X12_byteAt gX12_readAt_X12_byteAt rfl rfl rfl ⟨Nat.le_of_ble_eq_true rfl, Nat.le_of_ble_eq_true rfl⟩ kX_t hK hP hD hS hA [1, 2] [0] rfl (by decide +kernel) rfl rfl rfl hl rfl (Nat.le_of_ble_eq_true rfl) dX12_readAt_193 ⟨Nat.le_of_ble_eq_true rfl, Nat.le_of_ble_eq_true rfl⟩ (fun r_97 H locs hB hJ hSn => ?_)
                  obtain ⟨⟨hP1, hD1⟩, hf97_0, hf97_1⟩ := hB
                  obtain ⟨hPn, hDn⟩ := hJ _ hP1 hD1 [(mL, .inl (cI, 512, .inl eL)), (oM, .inr (12, [.ref mT, .int zt, .ref mS, .ref mX, .int zp, .int zf, .ref mL, .ref mB, .ref mD, .ref m1, .ref m2, .int zh, .ref mR, .int zr, .ref x1, .ref x2, .ref x3, .int zc, .ref mH, .int zy, .int za, .int zb, .int zs, .int zq, .int zw, .int ze, .ref mY, .int zn, .ref mE, .int zm, .int zl, .ref mW, .int zk, .ref mO, .int x_1, .ref y1, .ref y2, .ref y3, .ref y4, .ref mZ])), (mY, .inl (cI, 2600, .inl eY))] rfl
                  clear hP hD hS hJ hP1 hD1
                  have hP := hPn
                  have hD := hDn
                  have hS := hSn
                  clear hPn hDn hSn
                  refine lv_istore (lv' := [(5, .int r_97), (4, .int r_90), (3, .int x_1), (0, .ref oM), (1, .int cd), (2, .int q)]) hx hb dX12_readAt_196 hl (by decide) rfl (fun ls hl => ?_)
                  refine lv_iload hx hb dX12_readAt_198 (lv_at hl 0 rfl) ?_
                  refine kS_i (rest := []) hcf (m_X12_goesOn l dC dI cI cS H.size r_97 ) kc_X12_goesOn gX12_readAt_X12_goesOn rfl rfl ⟨Nat.le_of_ble_eq_true rfl, Nat.le_of_ble_eq_true rfl⟩ kX_t hK hP hD hS hA [] [0, 1, 2] rfl (by decide +kernel) rfl hl rfl (Nat.le_of_ble_eq_true rfl) dX12_readAt_200 ⟨Nat.le_of_ble_eq_true rfl, Nat.le_of_ble_eq_true rfl⟩ (fun r_98 H locs hB hJ hSn => ?_)
                  obtain ⟨⟨hP1, hD1⟩, hf98_0, hf98_1⟩ := hB
                  obtain ⟨hPn, hDn⟩ := hJ _ hP1 hD1 [(mL, .inl (cI, 512, .inl eL)), (oM, .inr (12, [.ref mT, .int zt, .ref mS, .ref mX, .int zp, .int zf, .ref mL, .ref mB, .ref mD, .ref m1, .ref m2, .int zh, .ref mR, .int zr, .ref x1, .ref x2, .ref x3, .int zc, .ref mH, .int zy, .int za, .int zb, .int zs, .int zq, .int zw, .int ze, .ref mY, .int zn, .ref mE, .int zm, .int zl, .ref mW, .int zk, .ref mO, .int x_1, .ref y1, .ref y2, .ref y3, .ref y4, .ref mZ])), (mY, .inl (cI, 2600, .inl eY))] rfl
                  clear hP hD hS hJ hP1 hD1
                  have hP := hPn
                  have hD := hDn
                  have hS := hSn
                  clear hPn hDn hSn
                  refine lv_if_ne (tgt := 208) hx hb dX12_readAt_203 (by decide) (fun c_99 => ?_) (fun c_99 => ?_)
                  · have tc_99 : ¬ r_98.toInt = 0 := v_ne c_99
                    refine lv_aload_n hx hb dX12_readAt_208 rfl (lv_at hl 3 rfl) ?_
                    refine lv_iload_n hx hb dX12_readAt_209 rfl (lv_at hl 2 rfl) ?_
                    refine lv_sipush (v := 224) hx hb dX12_readAt_210 (by decide) ?_
                    refine lv_isub hx hb dX12_readAt_213 ?_
                    refine lv_topi (fun x_100 ex_100 => ?_)
                    have tx_100 : x_100.toInt = x_1.toInt - 224 := v_subR (l2 := 224) (h2 := 224) ex_100 tx_1 (by decide) (by decide) (by decide)
                    refine lv_sipush (v := 4096) hx hb dX12_readAt_214 (by decide) ?_
                    refine lv_imul hx hb dX12_readAt_217 ?_
                    refine lv_topi (fun x_101 ex_101 => ?_)
                    have tx_101 : x_101.toInt = x_100.toInt * 4096 := v_mul ex_101 (by show -2147483648 ≤ x_100.toInt * 4096; omega) (by show x_100.toInt * 4096 < 2147483648; omega)
                    refine lv_iload hx hb dX12_readAt_218 (lv_at hl 1 rfl) ?_
                    refine lv_sipush (v := 128) hx hb dX12_readAt_220 (by decide) ?_
                    refine lv_isub hx hb dX12_readAt_223 ?_
                    refine lv_topi (fun x_102 ex_102 => ?_)
                    have tx_102 : x_102.toInt = r_90.toInt - 128 := v_subR (l2 := 128) (h2 := 128) ex_102 hf90_0 (by decide) (by decide) (by decide)
                    refine lv_bipush (v := 64) hx hb dX12_readAt_224 (by decide) ?_
                    refine lv_imul hx hb dX12_readAt_226 ?_
                    refine lv_topi (fun x_103 ex_103 => ?_)
                    have tx_103 : x_103.toInt = x_102.toInt * 64 := v_mul ex_103 (by show -2147483648 ≤ x_102.toInt * 64; omega) (by show x_102.toInt * 64 < 2147483648; omega)
                    refine lv_iadd hx hb dX12_readAt_227 ?_
                    refine lv_topi (fun x_104 ex_104 => ?_)
                    have tx_104 : x_104.toInt = x_101.toInt + x_103.toInt := v_add ex_104 (by show -2147483648 ≤ x_101.toInt + x_103.toInt; omega) (by show x_101.toInt + x_103.toInt < 2147483648; omega)
                    refine lv_iload hx hb dX12_readAt_228 (lv_at hl 0 rfl) ?_
                    refine lv_iadd hx hb dX12_readAt_230 ?_
                    refine lv_topi (fun x_105 ex_105 => ?_)
                    have tx_105 : x_105.toInt = x_104.toInt + r_97.toInt := v_add ex_105 (by show -2147483648 ≤ x_104.toInt + r_97.toInt; omega) (by show x_104.toInt + r_97.toInt < 2147483648; omega)
                    refine lv_sipush (v := 128) hx hb dX12_readAt_231 (by decide) ?_
                    refine lv_isub hx hb dX12_readAt_234 ?_
                    refine lv_topi (fun x_106 ex_106 => ?_)
                    have tx_106 : x_106.toInt = x_105.toInt - 128 := v_sub ex_106 (by show -2147483648 ≤ x_105.toInt - 128; omega) (by show x_105.toInt - 128 < 2147483648; omega)
                    refine va_put (D := (dC, dI)) (ci := 12) (v := .int x_106) (ty := .int) (C := RX12) (T := TX12) (N := 40) hx hb hts in_X12 tyX12 tyX12_ok nmX12 hown hK hP hD hS 1 rfl rfl 34 (by decide) (hts (.fieldLink RX12 105 "TextMenderModel" "readLetter" "I") (List.mem_of_getElem? (i := 2) rfl)) (fun _ h9 => h9) rfl (by decide +kernel) rfl rfl (Nat.le_of_ble_eq_true rfl) dX12_readAt_235 (kW (wn := [(mL, .inl (cI, 512, .inl eL)), (oM, .inr (12, [.ref mT, .int zt, .ref mS, .ref mX, .int zp, .int zf, .ref mL, .ref mB, .ref mD, .ref m1, .ref m2, .int zh, .ref mR, .int zr, .ref x1, .ref x2, .ref x3, .int zc, .ref mH, .int zy, .int za, .int zb, .int zs, .int zq, .int zw, .int ze, .ref mY, .int zn, .ref mE, .int zm, .int zl, .ref mW, .int zk, .ref mO, .int x_106, .ref y1, .ref y2, .ref y3, .ref y4, .ref mZ])), (mY, .inl (cI, 2600, .inl eY))]) rfl (fun H locs hPn hDn hSn => ?_))
                    clear hP hD hS
                    have hP := hPn
                    have hD := hDn
                    have hS := hSn
                    clear hPn hDn hSn
                    refine lv_aload_n hx hb dX12_readAt_238 rfl (lv_at hl 3 rfl) ?_
                    refine va_get (D := (dC, dI)) (ci := 12) (v := .int x_106) (C := RX12) (T := TX12) (N := 40) hx hb hts in_X12 hown hK hP 1 rfl rfl 34 (by decide) (hts (.fieldLink RX12 105 "TextMenderModel" "readLetter" "I") (List.mem_of_getElem? (i := 2) rfl)) (fun _ h9 => h9) rfl dX12_readAt_239 ?_
                    refine lv_sipush (v := 2048) hx hb dX12_readAt_242 (by decide) ?_
                    refine lv_icmp_lt (tgt := 258) hx hb dX12_readAt_245 (by decide) (fun c_107 => ?_) (fun c_107 => ?_)
                    · have tc_107 : x_106.toInt < 2048 := v_lt c_107
                      refine lv_iconst (v := 0) hx hb dX12_readAt_258 (by decide) ?_
                      refine lv_goto (tgt := 263) hx hb dX12_readAt_259 (by decide) ?_
                      exact kl_i (v := 0) hQQ hx hb hr hlocks hS dX12_readAt_263 ⟨x_106, kPD_sub hP hD [1, 2, 0] (by decide +kernel) rfl, by decide, by show 0 = 0 ∨ (0 ≤ x_106.toInt ∧ x_106.toInt ≤ 65535); omega⟩
                    · have tc_107 : 2048 ≤ x_106.toInt := v_nlt c_107
                      refine lv_aload_n hx hb dX12_readAt_248 rfl (lv_at hl 3 rfl) ?_
                      refine va_get (D := (dC, dI)) (ci := 12) (v := .int x_106) (C := RX12) (T := TX12) (N := 40) hx hb hts in_X12 hown hK hP 1 rfl rfl 34 (by decide) (hts (.fieldLink RX12 105 "TextMenderModel" "readLetter" "I") (List.mem_of_getElem? (i := 2) rfl)) (fun _ h9 => h9) rfl dX12_readAt_249 ?_
                      refine kS_i (rest := []) hcf (m_X12_isLetter l dC dI cI cS H.size x_106 ) kc_X12_isLetter gX12_readAt_X12_isLetter rfl rfl ⟨Nat.le_of_ble_eq_true rfl, Nat.le_of_ble_eq_true rfl⟩ kX_t hK hP hD hS hA [] [0, 1, 2] rfl (by decide +kernel) rfl hl rfl (Nat.le_of_ble_eq_true rfl) dX12_readAt_252 ⟨Nat.le_of_ble_eq_true rfl, Nat.le_of_ble_eq_true rfl⟩ (fun r_108 H locs hB hJ hSn => ?_)
                      obtain ⟨⟨hP1, hD1⟩, hf108_0, hf108_1⟩ := hB
                      obtain ⟨hPn, hDn⟩ := hJ _ hP1 hD1 [(mL, .inl (cI, 512, .inl eL)), (oM, .inr (12, [.ref mT, .int zt, .ref mS, .ref mX, .int zp, .int zf, .ref mL, .ref mB, .ref mD, .ref m1, .ref m2, .int zh, .ref mR, .int zr, .ref x1, .ref x2, .ref x3, .int zc, .ref mH, .int zy, .int za, .int zb, .int zs, .int zq, .int zw, .int ze, .ref mY, .int zn, .ref mE, .int zm, .int zl, .ref mW, .int zk, .ref mO, .int x_106, .ref y1, .ref y2, .ref y3, .ref y4, .ref mZ])), (mY, .inl (cI, 2600, .inl eY))] rfl
                      clear hP hD hS hJ hP1 hD1
                      have hP := hPn
                      have hD := hDn
                      have hS := hSn
                      clear hPn hDn hSn
                      refine lv_if_ne (tgt := 262) hx hb dX12_readAt_255 (by decide) (fun c_109 => ?_) (fun c_109 => ?_)
                      · have tc_109 : ¬ r_108.toInt = 0 := v_ne c_109
                        refine lv_iconst (v := 3) hx hb dX12_readAt_262 (by decide) ?_
                        exact kl_i (v := 3) hQQ hx hb hr hlocks hS dX12_readAt_263 ⟨x_106, kPD_sub hP hD [1, 2, 0] (by decide +kernel) rfl, by decide, by show 3 = 0 ∨ (0 ≤ x_106.toInt ∧ x_106.toInt ≤ 65535); omega⟩
                      · have tc_109 : r_108.toInt = 0 := v_eq c_109
                        refine lv_iconst (v := 0) hx hb dX12_readAt_258 (by decide) ?_
                        refine lv_goto (tgt := 263) hx hb dX12_readAt_259 (by decide) ?_
                        exact kl_i (v := 0) hQQ hx hb hr hlocks hS dX12_readAt_263 ⟨x_106, kPD_sub hP hD [1, 2, 0] (by decide +kernel) rfl, by decide, by show 0 = 0 ∨ (0 ≤ x_106.toInt ∧ x_106.toInt ≤ 65535); omega⟩
                  · have tc_99 : r_98.toInt = 0 := v_eq c_99
                    refine lv_iconst (v := 0) hx hb dX12_readAt_206 (by decide) ?_
                    exact kl_i (v := 0) hQQ hx hb hr hlocks hS dX12_readAt_207 ⟨x_1, kPD_sub hP hD [1, 2, 0] (by decide +kernel) rfl, by decide, by show 0 = 0 ∨ (0 ≤ x_1.toInt ∧ x_1.toInt ≤ 65535); omega⟩
                · have tc_95 : x_1.toInt < 224 := v_nle c_95
                  refine lv_aload_n hx hb dX12_readAt_154 rfl (lv_at hl 2 rfl) ?_
                  refine lv_iload_n hx hb dX12_readAt_155 rfl (lv_at hl 1 rfl) ?_
                  refine lv_sipush (v := 192) hx hb dX12_readAt_156 (by decide) ?_
                  refine lv_isub hx hb dX12_readAt_159 ?_
                  refine lv_topi (fun x_110 ex_110 => ?_)
                  have tx_110 : x_110.toInt = x_1.toInt - 192 := v_subR (l2 := 192) (h2 := 192) ex_110 tx_1 (by decide) (by decide) (by decide)
                  refine lv_bipush (v := 64) hx hb dX12_readAt_160 (by decide) ?_
                  refine lv_imul hx hb dX12_readAt_162 ?_
                  refine lv_topi (fun x_111 ex_111 => ?_)
                  have tx_111 : x_111.toInt = x_110.toInt * 64 := v_mul ex_111 (by show -2147483648 ≤ x_110.toInt * 64; omega) (by show x_110.toInt * 64 < 2147483648; omega)
                  refine lv_iload hx hb dX12_readAt_163 (lv_at hl 0 rfl) ?_
                  refine lv_iadd hx hb dX12_readAt_165 ?_
                  refine lv_topi (fun x_112 ex_112 => ?_)
                  have tx_112 : x_112.toInt = x_111.toInt + r_90.toInt := v_add ex_112 (by show -2147483648 ≤ x_111.toInt + r_90.toInt; omega) (by show x_111.toInt + r_90.toInt < 2147483648; omega)
                  refine lv_sipush (v := 128) hx hb dX12_readAt_166 (by decide) ?_
                  refine lv_isub hx hb dX12_readAt_169 ?_
                  refine lv_topi (fun x_113 ex_113 => ?_)
                  have tx_113 : x_113.toInt = x_112.toInt - 128 := v_sub ex_113 (by show -2147483648 ≤ x_112.toInt - 128; omega) (by show x_112.toInt - 128 < 2147483648; omega)
                  refine va_put (D := (dC, dI)) (ci := 12) (v := .int x_113) (ty := .int) (C := RX12) (T := TX12) (N := 40) hx hb hts in_X12 tyX12 tyX12_ok nmX12 hown hK hP hD hS 1 rfl rfl 34 (by decide) (hts (.fieldLink RX12 105 "TextMenderModel" "readLetter" "I") (List.mem_of_getElem? (i := 2) rfl)) (fun _ h9 => h9) rfl (by decide +kernel) rfl rfl (Nat.le_of_ble_eq_true rfl) dX12_readAt_170 (kW (wn := [(mL, .inl (cI, 512, .inl eL)), (oM, .inr (12, [.ref mT, .int zt, .ref mS, .ref mX, .int zp, .int zf, .ref mL, .ref mB, .ref mD, .ref m1, .ref m2, .int zh, .ref mR, .int zr, .ref x1, .ref x2, .ref x3, .int zc, .ref mH, .int zy, .int za, .int zb, .int zs, .int zq, .int zw, .int ze, .ref mY, .int zn, .ref mE, .int zm, .int zl, .ref mW, .int zk, .ref mO, .int x_113, .ref y1, .ref y2, .ref y3, .ref y4, .ref mZ])), (mY, .inl (cI, 2600, .inl eY))]) rfl (fun H locs hPn hDn hSn => ?_))
                  clear hP hD hS
                  have hP := hPn
                  have hD := hDn
                  have hS := hSn
                  clear hPn hDn hSn
                  refine lv_aload_n hx hb dX12_readAt_173 rfl (lv_at hl 2 rfl) ?_
                  refine va_get (D := (dC, dI)) (ci := 12) (v := .int x_113) (C := RX12) (T := TX12) (N := 40) hx hb hts in_X12 hown hK hP 1 rfl rfl 34 (by decide) (hts (.fieldLink RX12 105 "TextMenderModel" "readLetter" "I") (List.mem_of_getElem? (i := 2) rfl)) (fun _ h9 => h9) rfl dX12_readAt_174 ?_
                  refine lv_sipush (v := 128) hx hb dX12_readAt_177 (by decide) ?_
                  refine lv_icmp_ge (tgt := 187) hx hb dX12_readAt_180 (by decide) (fun c_114 => ?_) (fun c_114 => ?_)
                  · have tc_114 : 128 ≤ x_113.toInt := v_le c_114
                    refine lv_iconst (v := 2) hx hb dX12_readAt_187 (by decide) ?_
                    exact kl_i (v := 2) hQQ hx hb hr hlocks hS dX12_readAt_188 ⟨x_113, kPD_sub hP hD [1, 2, 0] (by decide +kernel) rfl, by decide, by show 2 = 0 ∨ (0 ≤ x_113.toInt ∧ x_113.toInt ≤ 65535); omega⟩
                  · have tc_114 : x_113.toInt < 128 := v_nle c_114
                    refine lv_iconst (v := 0) hx hb dX12_readAt_183 (by decide) ?_
                    refine lv_goto (tgt := 188) hx hb dX12_readAt_184 (by decide) ?_
                    exact kl_i (v := 0) hQQ hx hb hr hlocks hS dX12_readAt_188 ⟨x_113, kPD_sub hP hD [1, 2, 0] (by decide +kernel) rfl, by decide, by show 0 = 0 ∨ (0 ≤ x_113.toInt ∧ x_113.toInt ≤ 65535); omega⟩
              · have tc_94 : r_93.toInt = 0 := v_eq c_94
                refine lv_iconst (v := 0) hx hb dX12_readAt_145 (by decide) ?_
                exact kl_i (v := 0) hQQ hx hb hr hlocks hS dX12_readAt_146 ⟨x_1, kPD_sub hP hD [1, 2, 0] (by decide +kernel) rfl, by decide, by show 0 = 0 ∨ (0 ≤ x_1.toInt ∧ x_1.toInt ≤ 65535); omega⟩
        · have tc_86 : cd.toInt = 3 := v_eq c_86
          refine lv_iconst (v := 0) hx hb dX12_readAt_87 (by decide) ?_
          exact kl_i (v := 0) hQQ hx hb hr hlocks hS dX12_readAt_88 ⟨x_1, ⟨hP, hD⟩, by decide, by show 0 = 0 ∨ (0 ≤ x_1.toInt ∧ x_1.toInt ≤ 65535); omega⟩
    · have tc_3 : 3 < cd.toInt := v_nle c_3
      refine lv_aload_n hx hb dX12_readAt_44 rfl (lv_at hl 1 rfl) ?_
      refine lv_aload_n hx hb dX12_readAt_45 rfl (lv_at hl 1 rfl) ?_
      refine va_get (D := (dC, dI)) (ci := 12) (v := .ref mL) (C := RX12) (T := TX12) (N := 40) hx hb hts in_X12 hown hK hP 0 rfl rfl 6 (by decide) (hts (.fieldLink RX12 19 "TextMenderModel" "letterOf" "[I") (List.mem_of_getElem? (i := 3) rfl)) (fun _ h9 => h9) rfl dX12_readAt_46 ?_
      refine lv_sipush (v := 256) hx hb dX12_readAt_49 (by decide) ?_
      refine lv_iload_n hx hb dX12_readAt_52 rfl (lv_at hl 2 rfl) ?_
      refine lv_iconst (v := 4) hx hb dX12_readAt_53 (by decide) ?_
      refine lv_isub hx hb dX12_readAt_54 ?_
      refine lv_topi (fun x_115 ex_115 => ?_)
      have tx_115 : x_115.toInt = cd.toInt - 4 := v_subR (l2 := 4) (h2 := 4) ex_115 g_cd (by decide) (by decide) (by decide)
      refine lv_imul hx hb dX12_readAt_55 ?_
      refine lv_topi (fun x_116 ex_116 => ?_)
      have tx_116 : x_116.toInt = 256 * x_115.toInt := v_mul ex_116 (by show -2147483648 ≤ 256 * x_115.toInt; omega) (by show 256 * x_115.toInt < 2147483648; omega)
      refine lv_iload_n hx hb dX12_readAt_56 rfl (lv_at hl 0 rfl) ?_
      refine lv_iadd hx hb dX12_readAt_57 ?_
      refine lv_topi (fun x_117 ex_117 => ?_)
      have tx_117 : x_117.toInt = x_116.toInt + x_1.toInt := v_add ex_117 (by show -2147483648 ≤ x_116.toInt + x_1.toInt; omega) (by show x_116.toInt + x_1.toInt < 2147483648; omega)
      refine va_iald hx hb hK hP 2 0 rfl rfl (v_in (by omega)) dX12_readAt_58 ?_
      refine lv_topi (fun x_118 ex_118 => ?_)
      have tx_118 : -1 ≤ x_118.toInt ∧ x_118.toInt ≤ 65535 := rg_at g_eL ex_118
      refine va_put (D := (dC, dI)) (ci := 12) (v := .int x_118) (ty := .int) (C := RX12) (T := TX12) (N := 40) hx hb hts in_X12 tyX12 tyX12_ok nmX12 hown hK hP hD hS 0 rfl rfl 34 (by decide) (hts (.fieldLink RX12 105 "TextMenderModel" "readLetter" "I") (List.mem_of_getElem? (i := 2) rfl)) (fun _ h9 => h9) rfl (by decide +kernel) rfl rfl (Nat.le_of_ble_eq_true rfl) dX12_readAt_59 (kW (wn := [(oM, .inr (12, [.ref mT, .int zt, .ref mS, .ref mX, .int zp, .int zf, .ref mL, .ref mB, .ref mD, .ref m1, .ref m2, .int zh, .ref mR, .int zr, .ref x1, .ref x2, .ref x3, .int zc, .ref mH, .int zy, .int za, .int zb, .int zs, .int zq, .int zw, .int ze, .ref mY, .int zn, .ref mE, .int zm, .int zl, .ref mW, .int zk, .ref mO, .int x_118, .ref y1, .ref y2, .ref y3, .ref y4, .ref mZ])), (mY, .inl (cI, 2600, .inl eY)), (mL, .inl (cI, 512, .inl eL))]) rfl (fun H locs hPn hDn hSn => ?_))
      clear hP hD hS
      have hP := hPn
      have hD := hDn
      have hS := hSn
      clear hPn hDn hSn
      refine lv_aload_n hx hb dX12_readAt_62 rfl (lv_at hl 1 rfl) ?_
      refine va_get (D := (dC, dI)) (ci := 12) (v := .int x_118) (C := RX12) (T := TX12) (N := 40) hx hb hts in_X12 hown hK hP 0 rfl rfl 34 (by decide) (hts (.fieldLink RX12 105 "TextMenderModel" "readLetter" "I") (List.mem_of_getElem? (i := 2) rfl)) (fun _ h9 => h9) rfl dX12_readAt_63 ?_
      refine lv_iconst (v := (-1)) hx hb dX12_readAt_66 (by decide) ?_
      refine lv_icmp_ne (tgt := 74) hx hb dX12_readAt_67 (by decide) (fun c_119 => ?_) (fun c_119 => ?_)
      · have tc_119 : ¬ x_118.toInt = (-1) := v_ne c_119
        refine lv_iconst (v := 1) hx hb dX12_readAt_74 (by decide) ?_
        exact kl_i (v := 1) hQQ hx hb hr hlocks hS dX12_readAt_75 ⟨x_118, ⟨hP, hD⟩, by decide, by show 1 = 0 ∨ (0 ≤ x_118.toInt ∧ x_118.toInt ≤ 65535); omega⟩
      · have tc_119 : x_118.toInt = (-1) := v_eq c_119
        refine lv_iconst (v := 0) hx hb dX12_readAt_70 (by decide) ?_
        refine lv_goto (tgt := 75) hx hb dX12_readAt_71 (by decide) ?_
        exact kl_i (v := 0) hQQ hx hb hr hlocks hS dX12_readAt_75 ⟨x_118, ⟨hP, hD⟩, by decide, by show 0 = 0 ∨ (0 ≤ x_118.toInt ∧ x_118.toInt ≤ 65535); omega⟩
  · have tc_2 : cd.toInt < 2 := v_nle c_2
    refine lv_iload_n hx hb dX12_readAt_17 rfl (lv_at hl 0 rfl) ?_
    refine lv_iload_n hx hb dX12_readAt_18 rfl (lv_at hl 2 rfl) ?_
    refine lv_if_ne (tgt := 27) hx hb dX12_readAt_19 (by decide) (fun c_120 => ?_) (fun c_120 => ?_)
    · have tc_120 : ¬ cd.toInt = 0 := v_ne c_120
      refine lv_sipush (v := 255) hx hb dX12_readAt_27 (by decide) ?_
      refine lv_icmp_le (tgt := 37) hx hb dX12_readAt_30 (by decide) (fun c_121 => ?_) (fun c_121 => by exfalso; have tc_121 : 255 < x_1.toInt := v_nle c_121; omega)
      have tc_121 : x_1.toInt ≤ 255 := v_le c_121
      refine lv_iconst (v := 1) hx hb dX12_readAt_37 (by decide) ?_
      exact kl_i (v := 1) hQQ hx hb hr hlocks hS dX12_readAt_38 ⟨x_1, ⟨hP, hD⟩, by decide, by show 1 = 0 ∨ (0 ≤ x_1.toInt ∧ x_1.toInt ≤ 65535); omega⟩
    · have tc_120 : cd.toInt = 0 := v_eq c_120
      refine lv_bipush (v := 127) hx hb dX12_readAt_22 (by decide) ?_
      refine lv_goto (tgt := 30) hx hb dX12_readAt_24 (by decide) ?_
      refine lv_icmp_le (tgt := 37) hx hb dX12_readAt_30 (by decide) (fun c_122 => ?_) (fun c_122 => ?_)
      · have tc_122 : x_1.toInt ≤ 127 := v_le c_122
        refine lv_iconst (v := 1) hx hb dX12_readAt_37 (by decide) ?_
        exact kl_i (v := 1) hQQ hx hb hr hlocks hS dX12_readAt_38 ⟨x_1, ⟨hP, hD⟩, by decide, by show 1 = 0 ∨ (0 ≤ x_1.toInt ∧ x_1.toInt ≤ 65535); omega⟩
      · have tc_122 : 127 < x_1.toInt := v_nle c_122
        refine lv_iconst (v := 0) hx hb dX12_readAt_33 (by decide) ?_
        refine lv_goto (tgt := 38) hx hb dX12_readAt_34 (by decide) ?_
        exact kl_i (v := 0) hQQ hx hb hr hlocks hS dX12_readAt_38 ⟨x_1, ⟨hP, hD⟩, by decide, by show 0 = 0 ∨ (0 ≤ x_1.toInt ∧ x_1.toInt ≤ 65535); omega⟩

set_option maxHeartbeats 40000000 in
set_option maxRecDepth 100000 in
theorem m_X12_read (l : Launch) (dC : Nat → ClassId) (dI : Nat → Nat → Nat) (cI cS : ClassId) (sz : Nat) (oM : Nat) (mT : Nat) (mS : Nat) (mX : Nat) (mL : Nat) (mB : Nat) (mD : Nat) (m1 : Nat) (m2 : Nat) (mR : Nat) (x1 : Nat) (x2 : Nat) (x3 : Nat) (mH : Nat) (mY : Nat) (mE : Nat) (mW : Nat) (mO : Nat) (y1 : Nat) (y2 : Nat) (y3 : Nat) (y4 : Nat) (mZ : Nat) (zt : Int32) (zp : Int32) (zf : Int32) (zh : Int32) (zr : Int32) (zc : Int32) (zy : Int32) (za : Int32) (zb : Int32) (zs : Int32) (zq : Int32) (zw : Int32) (ze : Int32) (zn : Int32) (zm : Int32) (zl : Int32) (zk : Int32) (zd : Int32) (eY : Nat → Int32) (eL : Nat → Int32) (eE : Nat → Int32) (cd : Int32) (ro : Int32) (g_zt : 0 ≤ zt.toInt ∧ zt.toInt ≤ 900) (g_zp : 0 ≤ zp.toInt ∧ zp.toInt ≤ 20) (g_zf : 0 ≤ zf.toInt ∧ zf.toInt ≤ 19) (g_zh : 0 ≤ zh.toInt ∧ zh.toInt ≤ 6) (g_zr : 0 ≤ zr.toInt ∧ zr.toInt ≤ 258) (g_zc : 0 ≤ zc.toInt ∧ zc.toInt ≤ 300) (g_zy : 0 ≤ zy.toInt ∧ zy.toInt ≤ 65536) (g_za : 0 ≤ za.toInt ∧ za.toInt ≤ 5) (g_zb : 0 ≤ zb.toInt ∧ zb.toInt ≤ 5) (g_zs : 0 ≤ zs.toInt ∧ zs.toInt ≤ 2000000) (g_zq : -1 ≤ zq.toInt ∧ zq.toInt ≤ 2000000) (g_zn : 0 ≤ zn.toInt ∧ zn.toInt ≤ 2600) (g_zm : 0 ≤ zm.toInt ∧ zm.toInt ≤ 2600) (g_zk : 0 ≤ zk.toInt ∧ zk.toInt ≤ 300) (g_eY : rg 0 255 eY) (g_eL : rg (-1) 65535 eL) (g_eE : rg 0 65535 eE) (g_cd : 0 ≤ cd.toInt ∧ cd.toInt ≤ 5) : kMi l yX12_read wsX12_read ({ frames := 2, cells := 0, slots := 0, locals := 47 } : Room) [.ref oM, .int cd, .int ro] sz (dC, dI) vwCl [(cI, .int), (cS, .short)] [(oM, .inr (12, [.ref mT, .int zt, .ref mS, .ref mX, .int zp, .int zf, .ref mL, .ref mB, .ref mD, .ref m1, .ref m2, .int zh, .ref mR, .int zr, .ref x1, .ref x2, .ref x3, .int zc, .ref mH, .int zy, .int za, .int zb, .int zs, .int zq, .int zw, .int ze, .ref mY, .int zn, .ref mE, .int zm, .int zl, .ref mW, .int zk, .ref mO, .int zd, .ref y1, .ref y2, .ref y3, .ref y4, .ref mZ])), (mY, .inl (cI, 2600, .inl eY)), (mL, .inl (cI, 512, .inl eL)), (mE, .inl (cI, 2600, .inl eE))] (fun _ => True) 0 0 (fun (A : Nat → Prop) (r : Int32) (hh9 : Heap) => ∃ (zd' : Int32) (zm' : Int32) (zl' : Int32) (eE' : Nat → Int32), kPD (dC, dI) vwCl A [(oM, .inr (12, [.ref mT, .int zt, .ref mS, .ref mX, .int zp, .int zf, .ref mL, .ref mB, .ref mD, .ref m1, .ref m2, .int zh, .ref mR, .int zr, .ref x1, .ref x2, .ref x3, .int zc, .ref mH, .int zy, .int za, .int zb, .int zs, .int zq, .int zw, .int ze, .ref mY, .int zn, .ref mE, .int zm', .int zl', .ref mW, .int zk, .ref mO, .int zd', .ref y1, .ref y2, .ref y3, .ref y4, .ref mZ])), (mY, .inl (cI, 2600, .inl eY)), (mL, .inl (cI, 512, .inl eL)), (mE, .inl (cI, 2600, .inl eE'))] hh9 ∧ (0 ≤ zm'.toInt ∧ zm'.toInt ≤ 2600) ∧ (rg 0 65535 eE') ∧ (0 ≤ r.toInt ∧ r.toInt ≤ 1) ∧ (zm'.toInt ≤ zn.toInt)) := by
  refine kMi_of (cc := cX12_read) (maxL := 5) (ret := (some .boolean)) (lv := [(0, .ref oM), (1, .int cd), (2, .int ro)]) (by decide +kernel) rfl rfl (Nat.le_of_ble_eq_true rfl) ?_
  intro p e s m below meth c A QQ ls hx hb hr hts hml hown hlocks hA hQQ hK hX hP hD hS hl
  have hown : s.vm.findClass RX12 = some m.cls := hown
  have hcf := k_cf hx hb hml hown hts
  have in_X12 : ∀ w ∈ wsX120, w ∈ wsX12_read := fun _ h => List.mem_cons_of_mem _ (List.mem_append_right _ (h))
  replace g_zm := hid g_zm
  replace g_cd := hid g_cd
  refine lv_aload_n hx hb dX12_read_0 rfl (lv_at hl 0 rfl) ?_
  refine lv_iconst (v := 0) hx hb dX12_read_1 (by decide) ?_
  refine va_put (D := (dC, dI)) (ci := 12) (v := .int 0) (ty := .int) (C := RX12) (T := TX12) (N := 40) hx hb hts in_X12 tyX12 tyX12_ok nmX12 hown hK hP hD hS 0 rfl rfl 29 (by decide) (hts (.fieldLink RX12 119 "TextMenderModel" "cameMany" "I") (List.mem_of_getElem? (i := 1) rfl)) (fun _ h9 => h9) rfl (by decide +kernel) rfl rfl (Nat.le_of_ble_eq_true rfl) dX12_read_2 (kW (wn := [(oM, .inr (12, [.ref mT, .int zt, .ref mS, .ref mX, .int zp, .int zf, .ref mL, .ref mB, .ref mD, .ref m1, .ref m2, .int zh, .ref mR, .int zr, .ref x1, .ref x2, .ref x3, .int zc, .ref mH, .int zy, .int za, .int zb, .int zs, .int zq, .int zw, .int ze, .ref mY, .int zn, .ref mE, .int 0, .int zl, .ref mW, .int zk, .ref mO, .int zd, .ref y1, .ref y2, .ref y3, .ref y4, .ref mZ])), (mY, .inl (cI, 2600, .inl eY)), (mL, .inl (cI, 512, .inl eL)), (mE, .inl (cI, 2600, .inl eE))]) rfl (fun H locs hPn hDn hSn => ?_))
  clear hP hD hS
  have hP := hPn
  have hD := hDn
  have hS := hSn
  clear hPn hDn hSn
  refine lv_iconst (v := 0) hx hb dX12_read_5 (by decide) ?_
  refine lv_istore_n (lv' := [(3, .int 0), (0, .ref oM), (1, .int cd), (2, .int ro)]) hx hb dX12_read_6 rfl hl (by decide) rfl (fun ls hl => ?_)
  have LOOP_7 : ∀ (k_7 : Nat) (p_ : Int32) (zma : Int32) (zda : Int32) (zla : Int32) (eEa : Nat → Int32) (H : Heap) (locs : List Loc) (ls : Array Slot), MSd (2608 - p_.toInt : Int) k_7 → (0 ≤ p_.toInt ∧ p_.toInt ≤ 2608) → (0 ≤ zma.toInt ∧ zma.toInt ≤ p_.toInt) → (rg 0 65535 eEa) → (zma.toInt ≤ zn.toInt) → va_P (dC, dI) vwCl [(oM, .inr (12, [.ref mT, .int zt, .ref mS, .ref mX, .int zp, .int zf, .ref mL, .ref mB, .ref mD, .ref m1, .ref m2, .int zh, .ref mR, .int zr, .ref x1, .ref x2, .ref x3, .int zc, .ref mH, .int zy, .int za, .int zb, .int zs, .int zq, .int zw, .int ze, .ref mY, .int zn, .ref mE, .int zma, .int zla, .ref mW, .int zk, .ref mO, .int zda, .ref y1, .ref y2, .ref y3, .ref y4, .ref mZ])), (mY, .inl (cI, 2600, .inl eY)), (mL, .inl (cI, 512, .inl eL)), (mE, .inl (cI, 2600, .inl eEa))] H → va_D A [(oM, .inr (12, [.ref mT, .int zt, .ref mS, .ref mX, .int zp, .int zf, .ref mL, .ref mB, .ref mD, .ref m1, .ref m2, .int zh, .ref mR, .int zr, .ref x1, .ref x2, .ref x3, .int zc, .ref mH, .int zy, .int za, .int zb, .int zs, .int zq, .int zw, .int ze, .ref mY, .int zn, .ref mE, .int zma, .int zla, .ref mW, .int zk, .ref mO, .int zda, .ref y1, .ref y2, .ref y3, .ref y4, .ref mZ])), (mY, .inl (cI, 2600, .inl eY)), (mL, .inl (cI, 512, .inl eL)), (mE, .inl (cI, 2600, .inl eEa))] → va_S A s.heap H locs → lv_has ls 5 [(3, .int p_), (0, .ref oM), (1, .int cd), (2, .int ro)] → W p l e (headSpec wsX12_read ({ frames := 2, cells := 0, slots := 0, locals := 47 } : Room)).room s m ([.ref oM, .int cd, .int ro] : List Value).toArray below meth c H locs 0 0 (MQ below QQ ([.ref oM, .int cd, .int ro] : List Value).toArray s 0 0 A) (F0 m 7 ls []) := by
    clear hP hD hS hl
    intro k_7
    induction k_7 with
    | zero =>
      intro p_ zma zda zla eEa H locs ls hm_7 g_p_ g_zma g_eEa hcb hP hD hS hl
      exact ms_0 hm_7
    | succ k_7 ih_7 =>
      intro p_ zma zda zla eEa H locs ls hm_7 g_p_ g_zma g_eEa hcb hP hD hS hl
      refine lv_iload_n hx hb dX12_read_7 rfl (lv_at hl 0 rfl) ?_
      refine lv_aload_n hx hb dX12_read_8 rfl (lv_at hl 1 rfl) ?_
      refine va_get (D := (dC, dI)) (ci := 12) (v := .int zn) (C := RX12) (T := TX12) (N := 40) hx hb hts in_X12 hown hK hP 0 rfl rfl 27 (by decide) (hts (.fieldLink RX12 91 "TextMenderModel" "byteMany" "I") (List.mem_of_getElem? (i := 2) rfl)) (fun _ h9 => h9) rfl dX12_read_9 ?_
      refine lv_icmp_ge (tgt := 89) hx hb dX12_read_12 (by decide) (fun c_1 => ?_) (fun c_1 => ?_)
      · have tc_1 : zn.toInt ≤ p_.toInt := v_le c_1
        refine lv_iconst (v := 1) hx hb dX12_read_89 (by decide) ?_
        exact kl_z (v := 1) hQQ hx hb hr hlocks hS dX12_read_90 (rfl) ⟨zda, zma, zla, eEa, ⟨hP, hD⟩, by omega, g_eEa, by decide, by show zma.toInt ≤ zn.toInt; omega⟩
      · have tc_1 : p_.toInt < zn.toInt := v_nle c_1
        refine lv_aload_n hx hb dX12_read_15 rfl (lv_at hl 1 rfl) ?_
        refine lv_iload_n hx hb dX12_read_16 rfl (lv_at hl 2 rfl) ?_
        refine lv_iload_n hx hb dX12_read_17 rfl (lv_at hl 0 rfl) ?_
        refine kV_i (rest := []) (q0 := 0) (ci := 12) hcf (m_X12_readAt l dC dI cI cS H.size oM mT mS mX mL mB mD m1 m2 mR x1 x2 x3 mH mY mE mW mO y1 y2 y3 y4 mZ zt zp zf zh zr zc zy za zb zs zq zw ze zn zma zla zk zda eY eL cd p_ (g_zt) (g_zp) (g_zf) (g_zh) (g_zr) (g_zc) (g_zy) (g_za) (g_zb) (g_zs) (g_zq) (g_zn) (by omega) (g_zk) (g_eY) (g_eL) (g_cd) (by omega)) kc_X12_readAt gX12_read_X12_readAt rfl rfl rfl ⟨Nat.le_of_ble_eq_true rfl, Nat.le_of_ble_eq_true rfl⟩ kX_t hK hP hD hS hA [0, 1, 2] [3] rfl (by decide +kernel) rfl rfl rfl hl rfl (Nat.le_of_ble_eq_true rfl) dX12_read_18 ⟨Nat.le_of_ble_eq_true rfl, Nat.le_of_ble_eq_true rfl⟩ (fun r_2 H locs hB hJ hSn => ?_)
        obtain ⟨zd_2, ⟨hP1, hD1⟩, hf2_0, hf2_1⟩ := hB
        obtain ⟨hPn, hDn⟩ := hJ _ hP1 hD1 [(mE, .inl (cI, 2600, .inl eEa)), (oM, .inr (12, [.ref mT, .int zt, .ref mS, .ref mX, .int zp, .int zf, .ref mL, .ref mB, .ref mD, .ref m1, .ref m2, .int zh, .ref mR, .int zr, .ref x1, .ref x2, .ref x3, .int zc, .ref mH, .int zy, .int za, .int zb, .int zs, .int zq, .int zw, .int ze, .ref mY, .int zn, .ref mE, .int zma, .int zla, .ref mW, .int zk, .ref mO, .int zd_2, .ref y1, .ref y2, .ref y3, .ref y4, .ref mZ])), (mY, .inl (cI, 2600, .inl eY)), (mL, .inl (cI, 512, .inl eL))] rfl
        clear hP hD hS hJ hP1 hD1
        have hP := hPn
        have hD := hDn
        have hS := hSn
        clear hPn hDn hSn
        refine lv_istore (lv' := [(4, .int r_2), (3, .int p_), (0, .ref oM), (1, .int cd), (2, .int ro)]) hx hb dX12_read_21 hl (by decide) rfl (fun ls hl => ?_)
        refine lv_iload hx hb dX12_read_23 (lv_at hl 0 rfl) ?_
        refine lv_if_ne (tgt := 39) hx hb dX12_read_25 (by decide) (fun c_3 => ?_) (fun c_3 => ?_)
        · have tc_3 : ¬ r_2.toInt = 0 := v_ne c_3
          refine lv_aload_n hx hb dX12_read_39 rfl (lv_at hl 2 rfl) ?_
          refine va_get (D := (dC, dI)) (ci := 12) (v := .ref mE) (C := RX12) (T := TX12) (N := 40) hx hb hts in_X12 hown hK hP 1 rfl rfl 28 (by decide) (hts (.fieldLink RX12 61 "TextMenderModel" "came" "[I") (List.mem_of_getElem? (i := 4) rfl)) (fun _ h9 => h9) rfl dX12_read_40 ?_
          refine lv_aload_n hx hb dX12_read_43 rfl (lv_at hl 2 rfl) ?_
          refine va_get (D := (dC, dI)) (ci := 12) (v := .int zma) (C := RX12) (T := TX12) (N := 40) hx hb hts in_X12 hown hK hP 1 rfl rfl 29 (by decide) (hts (.fieldLink RX12 119 "TextMenderModel" "cameMany" "I") (List.mem_of_getElem? (i := 1) rfl)) (fun _ h9 => h9) rfl dX12_read_44 ?_
          refine lv_iload hx hb dX12_read_47 (lv_at hl 0 rfl) ?_
          refine lv_if_ne (tgt := 57) hx hb dX12_read_49 (by decide) (fun c_4 => ?_) (fun c_4 => by exfalso; have tc_4 : r_2.toInt = 0 := v_eq c_4; omega)
          have tc_4 : ¬ r_2.toInt = 0 := v_ne c_4
          refine lv_aload_n hx hb dX12_read_57 rfl (lv_at hl 2 rfl) ?_
          refine va_get (D := (dC, dI)) (ci := 12) (v := .int zd_2) (C := RX12) (T := TX12) (N := 40) hx hb hts in_X12 hown hK hP 1 rfl rfl 34 (by decide) (hts (.fieldLink RX12 105 "TextMenderModel" "readLetter" "I") (List.mem_of_getElem? (i := 6) rfl)) (fun _ h9 => h9) rfl dX12_read_58 ?_
          obtain ⟨f_5, ef_5⟩ : ∃ g : Nat → Int32, g = upd eEa (zma : Int32).toNatClampNeg zd_2 := ⟨_, rfl⟩
          refine va_iast hx hb hK hP hD hS 0 0 rfl rfl (v_in (by omega)) dX12_read_61 (kWf (g := f_5) (F := fun f_5 => [(mE, .inl (cI, 2600, .inl f_5)), (oM, .inr (12, [.ref mT, .int zt, .ref mS, .ref mX, .int zp, .int zf, .ref mL, .ref mB, .ref mD, .ref m1, .ref m2, .int zh, .ref mR, .int zr, .ref x1, .ref x2, .ref x3, .int zc, .ref mH, .int zy, .int za, .int zb, .int zs, .int zq, .int zw, .int ze, .ref mY, .int zn, .ref mE, .int zma, .int zla, .ref mW, .int zk, .ref mO, .int zd_2, .ref y1, .ref y2, .ref y3, .ref y4, .ref mZ])), (mY, .inl (cI, 2600, .inl eY)), (mL, .inl (cI, 512, .inl eL))]) ef_5 rfl (fun H locs hPn hDn hSn => ?_))
          clear hP hD hS
          have hP := hPn
          have hD := hDn
          have hS := hSn
          clear hPn hDn hSn
          have g_f5 : rg 0 65535 f_5 := rg_upd ef_5 g_eEa (by omega)
          refine lv_aload_n hx hb dX12_read_62 rfl (lv_at hl 2 rfl) ?_
          refine lv_dup hx hb dX12_read_63 rfl ?_
          refine va_get (D := (dC, dI)) (ci := 12) (v := .int zma) (C := RX12) (T := TX12) (N := 40) hx hb hts in_X12 hown hK hP 1 rfl rfl 29 (by decide) (hts (.fieldLink RX12 119 "TextMenderModel" "cameMany" "I") (List.mem_of_getElem? (i := 1) rfl)) (fun _ h9 => h9) rfl dX12_read_64 ?_
          refine lv_iconst (v := 1) hx hb dX12_read_67 (by decide) ?_
          refine lv_iadd hx hb dX12_read_68 ?_
          refine lv_topi (fun x_6 ex_6 => ?_)
          have tx_6 : x_6.toInt = zma.toInt + 1 := v_add ex_6 (by show -2147483648 ≤ zma.toInt + 1; omega) (by show zma.toInt + 1 < 2147483648; omega)
          refine va_put (D := (dC, dI)) (ci := 12) (v := .int x_6) (ty := .int) (C := RX12) (T := TX12) (N := 40) hx hb hts in_X12 tyX12 tyX12_ok nmX12 hown hK hP hD hS 1 rfl rfl 29 (by decide) (hts (.fieldLink RX12 119 "TextMenderModel" "cameMany" "I") (List.mem_of_getElem? (i := 1) rfl)) (fun _ h9 => h9) rfl (by decide +kernel) rfl rfl (Nat.le_of_ble_eq_true rfl) dX12_read_69 (kW (wn := [(mE, .inl (cI, 2600, .inl f_5)), (oM, .inr (12, [.ref mT, .int zt, .ref mS, .ref mX, .int zp, .int zf, .ref mL, .ref mB, .ref mD, .ref m1, .ref m2, .int zh, .ref mR, .int zr, .ref x1, .ref x2, .ref x3, .int zc, .ref mH, .int zy, .int za, .int zb, .int zs, .int zq, .int zw, .int ze, .ref mY, .int zn, .ref mE, .int x_6, .int zla, .ref mW, .int zk, .ref mO, .int zd_2, .ref y1, .ref y2, .ref y3, .ref y4, .ref mZ])), (mY, .inl (cI, 2600, .inl eY)), (mL, .inl (cI, 512, .inl eL))]) rfl (fun H locs hPn hDn hSn => ?_))
          clear hP hD hS
          have hP := hPn
          have hD := hDn
          have hS := hSn
          clear hPn hDn hSn
          refine lv_iload_n hx hb dX12_read_72 rfl (lv_at hl 1 rfl) ?_
          refine lv_iload hx hb dX12_read_73 (lv_at hl 0 rfl) ?_
          refine lv_if_ne (tgt := 82) hx hb dX12_read_75 (by decide) (fun c_7 => ?_) (fun c_7 => by exfalso; have tc_7 : r_2.toInt = 0 := v_eq c_7; omega)
          have tc_7 : ¬ r_2.toInt = 0 := v_ne c_7
          refine lv_iload hx hb dX12_read_82 (lv_at hl 0 rfl) ?_
          refine lv_iadd hx hb dX12_read_84 ?_
          refine lv_topi (fun x_8 ex_8 => ?_)
          have tx_8 : x_8.toInt = p_.toInt + r_2.toInt := v_addR ex_8 g_p_ hf2_0 (by decide) (by decide)
          refine lv_istore_n (lv' := [(3, .int x_8), (4, .int r_2), (0, .ref oM), (1, .int cd), (2, .int ro)]) hx hb dX12_read_85 rfl hl (by decide) rfl (fun ls hl => ?_)
          refine lv_goto (tgt := 7) hx hb dX12_read_86 (by decide) ?_
          exact ih_7 x_8 x_6 zd_2 zla f_5 _ _ _ (ms_lt hm_7 (by show ((2608 - x_8.toInt : Int)) < 2608 - p_.toInt; omega) (by show (0 : Int) < 2608 - p_.toInt; omega)) (by show 0 ≤ x_8.toInt ∧ x_8.toInt ≤ 2608; omega) (by show 0 ≤ x_6.toInt ∧ x_6.toInt ≤ x_8.toInt; omega) (g_f5) (by show x_6.toInt ≤ zn.toInt; omega) (hP.sub [1, 2, 3, 0] rfl) (hD.sub [1, 2, 3, 0] (by decide +kernel) rfl) hS (lv_sub hl [0, 2, 3, 4] rfl)
        · have tc_3 : r_2.toInt = 0 := v_eq c_3
          refine lv_iload_n hx hb dX12_read_28 rfl (lv_at hl 4 rfl) ?_
          refine lv_if_ne (tgt := 39) hx hb dX12_read_29 (by decide) (fun c_9 => ?_) (fun c_9 => ?_)
          · have tc_9 : ¬ ro.toInt = 0 := v_ne c_9
            refine lv_aload_n hx hb dX12_read_39 rfl (lv_at hl 2 rfl) ?_
            refine va_get (D := (dC, dI)) (ci := 12) (v := .ref mE) (C := RX12) (T := TX12) (N := 40) hx hb hts in_X12 hown hK hP 1 rfl rfl 28 (by decide) (hts (.fieldLink RX12 61 "TextMenderModel" "came" "[I") (List.mem_of_getElem? (i := 4) rfl)) (fun _ h9 => h9) rfl dX12_read_40 ?_
            refine lv_aload_n hx hb dX12_read_43 rfl (lv_at hl 2 rfl) ?_
            refine va_get (D := (dC, dI)) (ci := 12) (v := .int zma) (C := RX12) (T := TX12) (N := 40) hx hb hts in_X12 hown hK hP 1 rfl rfl 29 (by decide) (hts (.fieldLink RX12 119 "TextMenderModel" "cameMany" "I") (List.mem_of_getElem? (i := 1) rfl)) (fun _ h9 => h9) rfl dX12_read_44 ?_
            refine lv_iload hx hb dX12_read_47 (lv_at hl 0 rfl) ?_
            refine lv_if_ne (tgt := 57) hx hb dX12_read_49 (by decide) (fun c_10 => by exfalso; have tc_10 : ¬ r_2.toInt = 0 := v_ne c_10; omega) (fun c_10 => ?_)
            have tc_10 : r_2.toInt = 0 := v_eq c_10
            refine lv_ldc hx hb hown (hts (.constant RX12 126 (65533)) (List.mem_of_getElem? (i := 5) rfl)) dX12_read_52 ?_
            refine lv_goto (tgt := 61) hx hb dX12_read_54 (by decide) ?_
            obtain ⟨f_11, ef_11⟩ : ∃ g : Nat → Int32, g = upd eEa (zma : Int32).toNatClampNeg 65533 := ⟨_, rfl⟩
            refine va_iast hx hb hK hP hD hS 0 0 rfl rfl (v_in (by omega)) dX12_read_61 (kWf (g := f_11) (F := fun f_11 => [(mE, .inl (cI, 2600, .inl f_11)), (oM, .inr (12, [.ref mT, .int zt, .ref mS, .ref mX, .int zp, .int zf, .ref mL, .ref mB, .ref mD, .ref m1, .ref m2, .int zh, .ref mR, .int zr, .ref x1, .ref x2, .ref x3, .int zc, .ref mH, .int zy, .int za, .int zb, .int zs, .int zq, .int zw, .int ze, .ref mY, .int zn, .ref mE, .int zma, .int zla, .ref mW, .int zk, .ref mO, .int zd_2, .ref y1, .ref y2, .ref y3, .ref y4, .ref mZ])), (mY, .inl (cI, 2600, .inl eY)), (mL, .inl (cI, 512, .inl eL))]) ef_11 rfl (fun H locs hPn hDn hSn => ?_))
            clear hP hD hS
            have hP := hPn
            have hD := hDn
            have hS := hSn
            clear hPn hDn hSn
            have g_f11 : rg 0 65535 f_11 := rg_upd ef_11 g_eEa (by decide)
            refine lv_aload_n hx hb dX12_read_62 rfl (lv_at hl 2 rfl) ?_
            refine lv_dup hx hb dX12_read_63 rfl ?_
            refine va_get (D := (dC, dI)) (ci := 12) (v := .int zma) (C := RX12) (T := TX12) (N := 40) hx hb hts in_X12 hown hK hP 1 rfl rfl 29 (by decide) (hts (.fieldLink RX12 119 "TextMenderModel" "cameMany" "I") (List.mem_of_getElem? (i := 1) rfl)) (fun _ h9 => h9) rfl dX12_read_64 ?_
            refine lv_iconst (v := 1) hx hb dX12_read_67 (by decide) ?_
            refine lv_iadd hx hb dX12_read_68 ?_
            refine lv_topi (fun x_12 ex_12 => ?_)
            have tx_12 : x_12.toInt = zma.toInt + 1 := v_add ex_12 (by show -2147483648 ≤ zma.toInt + 1; omega) (by show zma.toInt + 1 < 2147483648; omega)
            refine va_put (D := (dC, dI)) (ci := 12) (v := .int x_12) (ty := .int) (C := RX12) (T := TX12) (N := 40) hx hb hts in_X12 tyX12 tyX12_ok nmX12 hown hK hP hD hS 1 rfl rfl 29 (by decide) (hts (.fieldLink RX12 119 "TextMenderModel" "cameMany" "I") (List.mem_of_getElem? (i := 1) rfl)) (fun _ h9 => h9) rfl (by decide +kernel) rfl rfl (Nat.le_of_ble_eq_true rfl) dX12_read_69 (kW (wn := [(mE, .inl (cI, 2600, .inl f_11)), (oM, .inr (12, [.ref mT, .int zt, .ref mS, .ref mX, .int zp, .int zf, .ref mL, .ref mB, .ref mD, .ref m1, .ref m2, .int zh, .ref mR, .int zr, .ref x1, .ref x2, .ref x3, .int zc, .ref mH, .int zy, .int za, .int zb, .int zs, .int zq, .int zw, .int ze, .ref mY, .int zn, .ref mE, .int x_12, .int zla, .ref mW, .int zk, .ref mO, .int zd_2, .ref y1, .ref y2, .ref y3, .ref y4, .ref mZ])), (mY, .inl (cI, 2600, .inl eY)), (mL, .inl (cI, 512, .inl eL))]) rfl (fun H locs hPn hDn hSn => ?_))
            clear hP hD hS
            have hP := hPn
            have hD := hDn
            have hS := hSn
            clear hPn hDn hSn
            refine lv_iload_n hx hb dX12_read_72 rfl (lv_at hl 1 rfl) ?_
            refine lv_iload hx hb dX12_read_73 (lv_at hl 0 rfl) ?_
            refine lv_if_ne (tgt := 82) hx hb dX12_read_75 (by decide) (fun c_13 => by exfalso; have tc_13 : ¬ r_2.toInt = 0 := v_ne c_13; omega) (fun c_13 => ?_)
            have tc_13 : r_2.toInt = 0 := v_eq c_13
            refine lv_iconst (v := 1) hx hb dX12_read_78 (by decide) ?_
            refine lv_goto (tgt := 84) hx hb dX12_read_79 (by decide) ?_
            refine lv_iadd hx hb dX12_read_84 ?_
            refine lv_topi (fun x_14 ex_14 => ?_)
            have tx_14 : x_14.toInt = p_.toInt + 1 := v_addR (l2 := 1) (h2 := 1) ex_14 g_p_ (by decide) (by decide) (by decide)
            refine lv_istore_n (lv' := [(3, .int x_14), (4, .int r_2), (0, .ref oM), (1, .int cd), (2, .int ro)]) hx hb dX12_read_85 rfl hl (by decide) rfl (fun ls hl => ?_)
            refine lv_goto (tgt := 7) hx hb dX12_read_86 (by decide) ?_
            exact ih_7 x_14 x_12 zd_2 zla f_11 _ _ _ (ms_lt hm_7 (by show ((2608 - x_14.toInt : Int)) < 2608 - p_.toInt; omega) (by show (0 : Int) < 2608 - p_.toInt; omega)) (by show 0 ≤ x_14.toInt ∧ x_14.toInt ≤ 2608; omega) (by show 0 ≤ x_12.toInt ∧ x_12.toInt ≤ x_14.toInt; omega) (g_f11) (by show x_12.toInt ≤ zn.toInt; omega) (hP.sub [1, 2, 3, 0] rfl) (hD.sub [1, 2, 3, 0] (by decide +kernel) rfl) hS (lv_sub hl [0, 2, 3, 4] rfl)
          · have tc_9 : ro.toInt = 0 := v_eq c_9
            refine lv_aload_n hx hb dX12_read_32 rfl (lv_at hl 2 rfl) ?_
            refine lv_iload_n hx hb dX12_read_33 rfl (lv_at hl 1 rfl) ?_
            refine va_put (D := (dC, dI)) (ci := 12) (v := .int p_) (ty := .int) (C := RX12) (T := TX12) (N := 40) hx hb hts in_X12 tyX12 tyX12_ok nmX12 hown hK hP hD hS 1 rfl rfl 30 (by decide) (hts (.fieldLink RX12 102 "TextMenderModel" "faultAt" "I") (List.mem_of_getElem? (i := 3) rfl)) (fun _ h9 => h9) rfl (by decide +kernel) rfl rfl (Nat.le_of_ble_eq_true rfl) dX12_read_34 (kW (wn := [(mE, .inl (cI, 2600, .inl eEa)), (oM, .inr (12, [.ref mT, .int zt, .ref mS, .ref mX, .int zp, .int zf, .ref mL, .ref mB, .ref mD, .ref m1, .ref m2, .int zh, .ref mR, .int zr, .ref x1, .ref x2, .ref x3, .int zc, .ref mH, .int zy, .int za, .int zb, .int zs, .int zq, .int zw, .int ze, .ref mY, .int zn, .ref mE, .int zma, .int p_, .ref mW, .int zk, .ref mO, .int zd_2, .ref y1, .ref y2, .ref y3, .ref y4, .ref mZ])), (mY, .inl (cI, 2600, .inl eY)), (mL, .inl (cI, 512, .inl eL))]) rfl (fun H locs hPn hDn hSn => ?_))
            clear hP hD hS
            have hP := hPn
            have hD := hDn
            have hS := hSn
            clear hPn hDn hSn
            refine lv_iconst (v := 0) hx hb dX12_read_37 (by decide) ?_
            exact kl_z (v := 0) hQQ hx hb hr hlocks hS dX12_read_38 (rfl) ⟨zd_2, zma, p_, eEa, kPD_sub hP hD [1, 2, 3, 0] (by decide +kernel) rfl, by omega, g_eEa, by decide, by show zma.toInt ≤ zn.toInt; omega⟩
  exact LOOP_7 _ 0 0 zd zl eE _ _ _ (ms_s _) (by decide) (by show 0 ≤ (0 : Int) ∧ (0 : Int) ≤ 0; omega) (g_eE) (by show 0 ≤ zn.toInt; omega) hP hD hS (lv_sub hl [0, 1, 2, 3] rfl)

set_option maxHeartbeats 40000000 in
set_option maxRecDepth 100000 in
theorem m_X12_does (l : Launch) (dC : Nat → ClassId) (dI : Nat → Nat → Nat) (cI cS : ClassId) (sz : Nat) (oM : Nat) (rw : Nat) (mT : Nat) (mS : Nat) (mX : Nat) (mL : Nat) (mB : Nat) (mD : Nat) (m1 : Nat) (m2 : Nat) (mR : Nat) (x1 : Nat) (x2 : Nat) (x3 : Nat) (mH : Nat) (mY : Nat) (mE : Nat) (mW : Nat) (mO : Nat) (y1 : Nat) (y2 : Nat) (y3 : Nat) (y4 : Nat) (mZ : Nat) (cw : Nat) (zt : Int32) (zp : Int32) (zf : Int32) (zh : Int32) (zr : Int32) (zc : Int32) (zy : Int32) (za : Int32) (zb : Int32) (zs : Int32) (zq : Int32) (zw : Int32) (ze : Int32) (zn : Int32) (zm : Int32) (zl : Int32) (zk : Int32) (zd : Int32) (eY : Nat → Int32) (eB : Nat → Int32) (eL : Nat → Int32) (eE : Nat → Int32) (fr : Nat → Int32) (a : Int32) (b : Int32) (n : Int32) (g_zt : 0 ≤ zt.toInt ∧ zt.toInt ≤ 900) (g_zp : 0 ≤ zp.toInt ∧ zp.toInt ≤ 20) (g_zf : 0 ≤ zf.toInt ∧ zf.toInt ≤ 19) (g_zh : 0 ≤ zh.toInt ∧ zh.toInt ≤ 6) (g_zr : 0 ≤ zr.toInt ∧ zr.toInt ≤ 258) (g_zc : 0 ≤ zc.toInt ∧ zc.toInt ≤ 300) (g_zy : 0 ≤ zy.toInt ∧ zy.toInt ≤ 65536) (g_za : 0 ≤ za.toInt ∧ za.toInt ≤ 5) (g_zb : 0 ≤ zb.toInt ∧ zb.toInt ≤ 5) (g_zs : 0 ≤ zs.toInt ∧ zs.toInt ≤ 2000000) (g_zq : -1 ≤ zq.toInt ∧ zq.toInt ≤ 2000000) (g_zn : 0 ≤ zn.toInt ∧ zn.toInt ≤ 2600) (g_zm : 0 ≤ zm.toInt ∧ zm.toInt ≤ 2600) (g_zk : 0 ≤ zk.toInt ∧ zk.toInt ≤ 300) (g_eY : rg 0 255 eY) (g_eB : rg (-1) 255 eB) (g_eL : rg (-1) 65535 eL) (g_eE : rg 0 65535 eE) (g_fr : rg 0 65535 fr) (g_a : 0 ≤ a.toInt ∧ a.toInt ≤ 5) (g_b : 0 ≤ b.toInt ∧ b.toInt ≤ 5) (g_n : 0 ≤ n.toInt ∧ n.toInt ≤ 300) (hcw : n.toInt ≤ (cw : Int)) (hcw2 : cw ≤ 6300) : kMi l yX12_does wsX12_does ({ frames := 3, cells := 0, slots := 0, locals := 71 } : Room) [.ref oM, .int a, .int b, .ref rw, .int n] sz (dC, dI) vwCl [(cI, .int), (cS, .short)] [(oM, .inr (12, [.ref mT, .int zt, .ref mS, .ref mX, .int zp, .int zf, .ref mL, .ref mB, .ref mD, .ref m1, .ref m2, .int zh, .ref mR, .int zr, .ref x1, .ref x2, .ref x3, .int zc, .ref mH, .int zy, .int za, .int zb, .int zs, .int zq, .int zw, .int ze, .ref mY, .int zn, .ref mE, .int zm, .int zl, .ref mW, .int zk, .ref mO, .int zd, .ref y1, .ref y2, .ref y3, .ref y4, .ref mZ])), (mY, .inl (cI, 2600, .inl eY)), (mB, .inl (cS, 131072, .inl eB)), (mL, .inl (cI, 512, .inl eL)), (mE, .inl (cI, 2600, .inl eE)), (rw, .inl (cI, cw, .inl fr))] (fun _ => True) 0 0 (fun (A : Nat → Prop) (r : Int32) (hh9 : Heap) => ∃ (zn' : Int32) (eY' : Nat → Int32) (zd' : Int32) (zm' : Int32) (zl' : Int32) (eE' : Nat → Int32), kPD (dC, dI) vwCl A [(oM, .inr (12, [.ref mT, .int zt, .ref mS, .ref mX, .int zp, .int zf, .ref mL, .ref mB, .ref mD, .ref m1, .ref m2, .int zh, .ref mR, .int zr, .ref x1, .ref x2, .ref x3, .int zc, .ref mH, .int zy, .int za, .int zb, .int zs, .int zq, .int zw, .int ze, .ref mY, .int zn', .ref mE, .int zm', .int zl', .ref mW, .int zk, .ref mO, .int zd', .ref y1, .ref y2, .ref y3, .ref y4, .ref mZ])), (mY, .inl (cI, 2600, .inl eY')), (mB, .inl (cS, 131072, .inl eB)), (mL, .inl (cI, 512, .inl eL)), (mE, .inl (cI, 2600, .inl eE')), (rw, .inl (cI, cw, .inl fr))] hh9 ∧ (0 ≤ zn'.toInt ∧ zn'.toInt ≤ 2600) ∧ (rg 0 255 eY') ∧ (0 ≤ zm'.toInt ∧ zm'.toInt ≤ 2600) ∧ (rg 0 65535 eE') ∧ (0 ≤ r.toInt ∧ r.toInt ≤ 1) ∧ (r.toInt = 0 ∨ zm'.toInt ≤ 300)) := by
  refine kMi_of (cc := cX12_does) (maxL := 5) (ret := (some .boolean)) (lv := [(0, .ref oM), (1, .int a), (2, .int b), (3, .ref rw), (4, .int n)]) (by decide +kernel) rfl rfl (Nat.le_of_ble_eq_true rfl) ?_
  intro p e s m below meth c A QQ ls hx hb hr hts hml hown hlocks hA hQQ hK hX hP hD hS hl
  have hown : s.vm.findClass RX12 = some m.cls := hown
  have hcf := k_cf hx hb hml hown hts
  have in_X12 : ∀ w ∈ wsX120, w ∈ wsX12_does := fun _ h => List.mem_cons_of_mem _ (List.mem_append_right _ (h))
  replace g_zt := hid g_zt
  replace g_zp := hid g_zp
  replace g_zf := hid g_zf
  replace g_zh := hid g_zh
  replace g_zr := hid g_zr
  replace g_zc := hid g_zc
  replace g_zy := hid g_zy
  replace g_za := hid g_za
  replace g_zb := hid g_zb
  replace g_zs := hid g_zs
  replace g_zq := hid g_zq
  replace g_zn := hid g_zn
  replace g_zk := hid g_zk
  replace g_a := hid g_a
  replace g_b := hid g_b
  refine lv_aload_n hx hb dX12_does_0 rfl (lv_at hl 0 rfl) ?_
  refine lv_iconst (v := (-1)) hx hb dX12_does_1 (by decide) ?_
  refine va_put (D := (dC, dI)) (ci := 12) (v := .int (-1)) (ty := .int) (C := RX12) (T := TX12) (N := 40) hx hb hts in_X12 tyX12 tyX12_ok nmX12 hown hK hP hD hS 0 rfl rfl 30 (by decide) (hts (.fieldLink RX12 102 "TextMenderModel" "faultAt" "I") (List.mem_of_getElem? (i := 1) rfl)) (fun _ h9 => h9) rfl (by decide +kernel) rfl rfl (Nat.le_of_ble_eq_true rfl) dX12_does_2 (kW (wn := [(oM, .inr (12, [.ref mT, .int zt, .ref mS, .ref mX, .int zp, .int zf, .ref mL, .ref mB, .ref mD, .ref m1, .ref m2, .int zh, .ref mR, .int zr, .ref x1, .ref x2, .ref x3, .int zc, .ref mH, .int zy, .int za, .int zb, .int zs, .int zq, .int zw, .int ze, .ref mY, .int zn, .ref mE, .int zm, .int (-1), .ref mW, .int zk, .ref mO, .int zd, .ref y1, .ref y2, .ref y3, .ref y4, .ref mZ])), (mY, .inl (cI, 2600, .inl eY)), (mB, .inl (cS, 131072, .inl eB)), (mL, .inl (cI, 512, .inl eL)), (mE, .inl (cI, 2600, .inl eE)), (rw, .inl (cI, cw, .inl fr))]) rfl (fun H locs hPn hDn hSn => ?_))
  clear hP hD hS
  have hP := hPn
  have hD := hDn
  have hS := hSn
  clear hPn hDn hSn
  refine lv_aload_n hx hb dX12_does_5 rfl (lv_at hl 0 rfl) ?_
  refine lv_iload_n hx hb dX12_does_6 rfl (lv_at hl 1 rfl) ?_
  refine lv_aload_n hx hb dX12_does_7 rfl (lv_at hl 3 rfl) ?_
  refine lv_iload hx hb dX12_does_8 (lv_at hl 4 rfl) ?_
  refine kV_i (rest := []) (q0 := 0) (ci := 12) hcf (m_X12_write l dC dI cI cS H.size oM rw mT mS mX mL mB mD m1 m2 mR x1 x2 x3 mH mY mE mW mO y1 y2 y3 y4 mZ cw zt zp zf zh zr zc zy za zb zs zq zw ze zn zm (-1) zk zd eY eB fr a n (g_zt) (g_zp) (g_zf) (g_zh) (g_zr) (g_zc) (g_zy) (g_za) (g_zb) (g_zs) (g_zq) (g_zn) (g_zm) (g_zk) (g_eY) (g_eB) (g_fr) (g_a) (g_n) (by omega) (by omega)) kc_X12_write gX12_does_X12_write rfl rfl rfl ⟨Nat.le_of_ble_eq_true rfl, Nat.le_of_ble_eq_true rfl⟩ kX_t hK hP hD hS hA [0, 1, 2, 5] [3, 4] rfl (by decide +kernel) rfl rfl rfl hl rfl (Nat.le_of_ble_eq_true rfl) dX12_does_10 ⟨Nat.le_of_ble_eq_true rfl, Nat.le_of_ble_eq_true rfl⟩ (fun r_1 H locs hB hJ hSn => ?_)
  obtain ⟨zn_1, eY_1, zl_1, ⟨hP1, hD1⟩, hf1_0, hf1_1, hf1_2⟩ := hB
  obtain ⟨hPn, hDn⟩ := hJ _ hP1 hD1 [(mL, .inl (cI, 512, .inl eL)), (mE, .inl (cI, 2600, .inl eE)), (oM, .inr (12, [.ref mT, .int zt, .ref mS, .ref mX, .int zp, .int zf, .ref mL, .ref mB, .ref mD, .ref m1, .ref m2, .int zh, .ref mR, .int zr, .ref x1, .ref x2, .ref x3, .int zc, .ref mH, .int zy, .int za, .int zb, .int zs, .int zq, .int zw, .int ze, .ref mY, .int zn_1, .ref mE, .int zm, .int zl_1, .ref mW, .int zk, .ref mO, .int zd, .ref y1, .ref y2, .ref y3, .ref y4, .ref mZ])), (mY, .inl (cI, 2600, .inl eY_1)), (mB, .inl (cS, 131072, .inl eB)), (rw, .inl (cI, cw, .inl fr))] rfl
  clear hP hD hS hJ hP1 hD1
  have hP := hPn
  have hD := hDn
  have hS := hSn
  clear hPn hDn hSn
  refine lv_if_ne (tgt := 18) hx hb dX12_does_13 (by decide) (fun c_2 => ?_) (fun c_2 => ?_)
  · have tc_2 : ¬ r_1.toInt = 0 := v_ne c_2
    refine lv_aload_n hx hb dX12_does_18 rfl (lv_at hl 0 rfl) ?_
    refine va_get (D := (dC, dI)) (ci := 12) (v := .int zn_1) (C := RX12) (T := TX12) (N := 40) hx hb hts in_X12 hown hK hP 2 rfl rfl 27 (by decide) (hts (.fieldLink RX12 91 "TextMenderModel" "byteMany" "I") (List.mem_of_getElem? (i := 2) rfl)) (fun _ h9 => h9) rfl dX12_does_19 ?_
    refine lv_sipush (v := 900) hx hb dX12_does_22 (by decide) ?_
    refine lv_icmp_le (tgt := 30) hx hb dX12_does_25 (by decide) (fun c_3 => ?_) (fun c_3 => ?_)
    · have tc_3 : zn_1.toInt ≤ 900 := v_le c_3
      refine lv_aload_n hx hb dX12_does_30 rfl (lv_at hl 0 rfl) ?_
      refine lv_iload_n hx hb dX12_does_31 rfl (lv_at hl 2 rfl) ?_
      refine lv_iconst (v := 0) hx hb dX12_does_32 (by decide) ?_
      refine kV_i (rest := []) (q0 := 0) (ci := 12) hcf (m_X12_read l dC dI cI cS H.size oM mT mS mX mL mB mD m1 m2 mR x1 x2 x3 mH mY mE mW mO y1 y2 y3 y4 mZ zt zp zf zh zr zc zy za zb zs zq zw ze zn_1 zm zl_1 zk zd eY_1 eL eE b 0 (g_zt) (g_zp) (g_zf) (g_zh) (g_zr) (g_zc) (g_zy) (g_za) (g_zb) (g_zs) (g_zq) (hf1_0) (g_zm) (g_zk) (hf1_1) (g_eL) (g_eE) (g_b)) kc_X12_read gX12_does_X12_read rfl rfl rfl ⟨Nat.le_of_ble_eq_true rfl, Nat.le_of_ble_eq_true rfl⟩ kX_t hK hP hD hS hA [2, 3, 0, 1] [4, 5] rfl (by decide +kernel) rfl rfl rfl hl rfl (Nat.le_of_ble_eq_true rfl) dX12_does_33 ⟨Nat.le_of_ble_eq_true rfl, Nat.le_of_ble_eq_true rfl⟩ (fun r_4 H locs hB hJ hSn => ?_)
      obtain ⟨zd_4, zm_4, zl_4, eE_4, ⟨hP1, hD1⟩, hf4_0, hf4_1, hf4_2, hf4_3⟩ := hB
      obtain ⟨hPn, hDn⟩ := hJ _ hP1 hD1 [(mB, .inl (cS, 131072, .inl eB)), (rw, .inl (cI, cw, .inl fr)), (oM, .inr (12, [.ref mT, .int zt, .ref mS, .ref mX, .int zp, .int zf, .ref mL, .ref mB, .ref mD, .ref m1, .ref m2, .int zh, .ref mR, .int zr, .ref x1, .ref x2, .ref x3, .int zc, .ref mH, .int zy, .int za, .int zb, .int zs, .int zq, .int zw, .int ze, .ref mY, .int zn_1, .ref mE, .int zm_4, .int zl_4, .ref mW, .int zk, .ref mO, .int zd_4, .ref y1, .ref y2, .ref y3, .ref y4, .ref mZ])), (mY, .inl (cI, 2600, .inl eY_1)), (mL, .inl (cI, 512, .inl eL)), (mE, .inl (cI, 2600, .inl eE_4))] rfl
      clear hP hD hS hJ hP1 hD1
      have hP := hPn
      have hD := hDn
      have hS := hSn
      clear hPn hDn hSn
      refine lv_if_ne (tgt := 41) hx hb dX12_does_36 (by decide) (fun c_5 => ?_) (fun c_5 => ?_)
      · have tc_5 : ¬ r_4.toInt = 0 := v_ne c_5
        refine lv_aload_n hx hb dX12_does_41 rfl (lv_at hl 0 rfl) ?_
        refine va_get (D := (dC, dI)) (ci := 12) (v := .int zm_4) (C := RX12) (T := TX12) (N := 40) hx hb hts in_X12 hown hK hP 2 rfl rfl 29 (by decide) (hts (.fieldLink RX12 119 "TextMenderModel" "cameMany" "I") (List.mem_of_getElem? (i := 3) rfl)) (fun _ h9 => h9) rfl dX12_does_42 ?_
        refine lv_sipush (v := 300) hx hb dX12_does_45 (by decide) ?_
        refine lv_icmp_gt (tgt := 55) hx hb dX12_does_48 (by decide) (fun c_6 => ?_) (fun c_6 => ?_)
        · have tc_6 : 300 < zm_4.toInt := v_lt c_6
          refine lv_iconst (v := 0) hx hb dX12_does_55 (by decide) ?_
          exact kl_z (v := 0) hQQ hx hb hr hlocks hS dX12_does_56 (rfl) ⟨zn_1, eY_1, zd_4, zm_4, zl_4, eE_4, kPD_sub hP hD [2, 3, 0, 4, 5, 1] (by decide +kernel) rfl, hf1_0, hf1_1, hf4_0, hf4_1, by decide, by show 0 = 0 ∨ zm_4.toInt ≤ 300; omega⟩
        · have tc_6 : zm_4.toInt ≤ 300 := v_nlt c_6
          refine lv_iconst (v := 1) hx hb dX12_does_51 (by decide) ?_
          refine lv_goto (tgt := 56) hx hb dX12_does_52 (by decide) ?_
          exact kl_z (v := 1) hQQ hx hb hr hlocks hS dX12_does_56 (rfl) ⟨zn_1, eY_1, zd_4, zm_4, zl_4, eE_4, kPD_sub hP hD [2, 3, 0, 4, 5, 1] (by decide +kernel) rfl, hf1_0, hf1_1, hf4_0, hf4_1, by decide, by show 1 = 0 ∨ zm_4.toInt ≤ 300; omega⟩
      · have tc_5 : r_4.toInt = 0 := v_eq c_5
        refine lv_iconst (v := 0) hx hb dX12_does_39 (by decide) ?_
        exact kl_z (v := 0) hQQ hx hb hr hlocks hS dX12_does_40 (rfl) ⟨zn_1, eY_1, zd_4, zm_4, zl_4, eE_4, kPD_sub hP hD [2, 3, 0, 4, 5, 1] (by decide +kernel) rfl, hf1_0, hf1_1, hf4_0, hf4_1, by decide, by show 0 = 0 ∨ zm_4.toInt ≤ 300; omega⟩
    · have tc_3 : 900 < zn_1.toInt := v_nle c_3
      refine lv_iconst (v := 0) hx hb dX12_does_28 (by decide) ?_
      exact kl_z (v := 0) hQQ hx hb hr hlocks hS dX12_does_29 (rfl) ⟨zn_1, eY_1, zd, zm, zl_1, eE, kPD_sub hP hD [2, 3, 4, 0, 1, 5] (by decide +kernel) rfl, hf1_0, hf1_1, g_zm, g_eE, by decide, by show 0 = 0 ∨ zm.toInt ≤ 300; omega⟩
  · have tc_2 : r_1.toInt = 0 := v_eq c_2
    refine lv_iconst (v := 0) hx hb dX12_does_16 (by decide) ?_
    exact kl_z (v := 0) hQQ hx hb hr hlocks hS dX12_does_17 (rfl) ⟨zn_1, eY_1, zd, zm, zl_1, eE, kPD_sub hP hD [2, 3, 4, 0, 1, 5] (by decide +kernel) rfl, hf1_0, hf1_1, g_zm, g_eE, by decide, by show 0 = 0 ∨ zm.toInt ≤ 300; omega⟩

set_option maxHeartbeats 40000000 in
set_option maxRecDepth 100000 in
theorem m_X12_undoes (l : Launch) (dC : Nat → ClassId) (dI : Nat → Nat → Nat) (cI cS : ClassId) (sz : Nat) (oM : Nat) (mT : Nat) (mS : Nat) (mX : Nat) (mL : Nat) (mB : Nat) (mD : Nat) (m1 : Nat) (m2 : Nat) (mR : Nat) (x1 : Nat) (x2 : Nat) (x3 : Nat) (mH : Nat) (mY : Nat) (mE : Nat) (mW : Nat) (mO : Nat) (y1 : Nat) (y2 : Nat) (y3 : Nat) (y4 : Nat) (mZ : Nat) (zt : Int32) (zp : Int32) (zf : Int32) (zh : Int32) (zr : Int32) (zc : Int32) (zy : Int32) (za : Int32) (zb : Int32) (zs : Int32) (zq : Int32) (zw : Int32) (ze : Int32) (zn : Int32) (zm : Int32) (zl : Int32) (zk : Int32) (zd : Int32) (eY : Nat → Int32) (eB : Nat → Int32) (eL : Nat → Int32) (eE : Nat → Int32) (eW : Nat → Int32) (eO : Nat → Int32) (a : Int32) (b : Int32) (g_zt : 0 ≤ zt.toInt ∧ zt.toInt ≤ 900) (g_zp : 0 ≤ zp.toInt ∧ zp.toInt ≤ 20) (g_zf : 0 ≤ zf.toInt ∧ zf.toInt ≤ 19) (g_zh : 0 ≤ zh.toInt ∧ zh.toInt ≤ 6) (g_zr : 0 ≤ zr.toInt ∧ zr.toInt ≤ 258) (g_zc : 0 ≤ zc.toInt ∧ zc.toInt ≤ 300) (g_zy : 0 ≤ zy.toInt ∧ zy.toInt ≤ 65536) (g_za : 0 ≤ za.toInt ∧ za.toInt ≤ 5) (g_zb : 0 ≤ zb.toInt ∧ zb.toInt ≤ 5) (g_zs : 0 ≤ zs.toInt ∧ zs.toInt ≤ 2000000) (g_zq : -1 ≤ zq.toInt ∧ zq.toInt ≤ 2000000) (g_zn : 0 ≤ zn.toInt ∧ zn.toInt ≤ 2600) (g_zm : 0 ≤ zm.toInt ∧ zm.toInt ≤ 2600) (g_zk : 0 ≤ zk.toInt ∧ zk.toInt ≤ 300) (g_eY : rg 0 255 eY) (g_eB : rg (-1) 255 eB) (g_eL : rg (-1) 65535 eL) (g_eE : rg 0 65535 eE) (g_eW : rg 0 65535 eW) (g_eO : rg 0 65535 eO) (g_a : 0 ≤ a.toInt ∧ a.toInt ≤ 5) (g_b : 0 ≤ b.toInt ∧ b.toInt ≤ 5) : kMi l yX12_undoes wsX12_undoes ({ frames := 4, cells := 0, slots := 0, locals := 95 } : Room) [.ref oM, .int a, .int b] sz (dC, dI) vwCl [(cI, .int), (cS, .short)] [(oM, .inr (12, [.ref mT, .int zt, .ref mS, .ref mX, .int zp, .int zf, .ref mL, .ref mB, .ref mD, .ref m1, .ref m2, .int zh, .ref mR, .int zr, .ref x1, .ref x2, .ref x3, .int zc, .ref mH, .int zy, .int za, .int zb, .int zs, .int zq, .int zw, .int ze, .ref mY, .int zn, .ref mE, .int zm, .int zl, .ref mW, .int zk, .ref mO, .int zd, .ref y1, .ref y2, .ref y3, .ref y4, .ref mZ])), (mY, .inl (cI, 2600, .inl eY)), (mB, .inl (cS, 131072, .inl eB)), (mL, .inl (cI, 512, .inl eL)), (mE, .inl (cI, 2600, .inl eE)), (mW, .inl (cI, 300, .inl eW)), (mO, .inl (cI, 300, .inl eO))] (fun _ => True) 0 0 (fun (A : Nat → Prop) (r : Int32) (hh9 : Heap) => ∃ (zn' : Int32) (eY' : Nat → Int32) (zd' : Int32) (zm' : Int32) (zl' : Int32) (eE' : Nat → Int32) (zk' : Int32) (eW' : Nat → Int32) (eO' : Nat → Int32), kPD (dC, dI) vwCl A [(oM, .inr (12, [.ref mT, .int zt, .ref mS, .ref mX, .int zp, .int zf, .ref mL, .ref mB, .ref mD, .ref m1, .ref m2, .int zh, .ref mR, .int zr, .ref x1, .ref x2, .ref x3, .int zc, .ref mH, .int zy, .int za, .int zb, .int zs, .int zq, .int zw, .int ze, .ref mY, .int zn', .ref mE, .int zm', .int zl', .ref mW, .int zk', .ref mO, .int zd', .ref y1, .ref y2, .ref y3, .ref y4, .ref mZ])), (mY, .inl (cI, 2600, .inl eY')), (mB, .inl (cS, 131072, .inl eB)), (mL, .inl (cI, 512, .inl eL)), (mE, .inl (cI, 2600, .inl eE')), (mW, .inl (cI, 300, .inl eW')), (mO, .inl (cI, 300, .inl eO'))] hh9 ∧ (0 ≤ zn'.toInt ∧ zn'.toInt ≤ 2600) ∧ (rg 0 255 eY') ∧ (0 ≤ zm'.toInt ∧ zm'.toInt ≤ 2600) ∧ (rg 0 65535 eE') ∧ (0 ≤ zk'.toInt ∧ zk'.toInt ≤ 300) ∧ (rg 0 65535 eW') ∧ (rg 0 65535 eO') ∧ (0 ≤ r.toInt ∧ r.toInt ≤ 1)) := by
  refine kMi_of (cc := cX12_undoes) (maxL := 6) (ret := (some .boolean)) (lv := [(0, .ref oM), (1, .int a), (2, .int b)]) (by decide +kernel) rfl rfl (Nat.le_of_ble_eq_true rfl) ?_
  intro p e s m below meth c A QQ ls hx hb hr hts hml hown hlocks hA hQQ hK hX hP hD hS hl
  have hown : s.vm.findClass RX12 = some m.cls := hown
  have hcf := k_cf hx hb hml hown hts
  have in_X12 : ∀ w ∈ wsX120, w ∈ wsX12_undoes := fun _ h => List.mem_cons_of_mem _ (List.mem_append_right _ (h))
  replace g_zn := hid g_zn
  replace g_zm := hid g_zm
  replace g_a := hid g_a
  replace g_b := hid g_b
  refine lv_aload_n hx hb dX12_undoes_0 rfl (lv_at hl 0 rfl) ?_
  refine lv_iload_n hx hb dX12_undoes_1 rfl (lv_at hl 2 rfl) ?_
  refine lv_iload_n hx hb dX12_undoes_2 rfl (lv_at hl 1 rfl) ?_
  refine lv_aload_n hx hb dX12_undoes_3 rfl (lv_at hl 0 rfl) ?_
  refine va_get (D := (dC, dI)) (ci := 12) (v := .ref mW) (C := RX12) (T := TX12) (N := 40) hx hb hts in_X12 hown hK hP 0 rfl rfl 31 (by decide) (hts (.fieldLink RX12 64 "TextMenderModel" "work" "[I") (List.mem_of_getElem? (i := 1) rfl)) (fun _ h9 => h9) rfl dX12_undoes_4 ?_
  refine lv_aload_n hx hb dX12_undoes_7 rfl (lv_at hl 0 rfl) ?_
  refine va_get (D := (dC, dI)) (ci := 12) (v := .int zk) (C := RX12) (T := TX12) (N := 40) hx hb hts in_X12 hown hK hP 0 rfl rfl 32 (by decide) (hts (.fieldLink RX12 135 "TextMenderModel" "workMany" "I") (List.mem_of_getElem? (i := 2) rfl)) (fun _ h9 => h9) rfl dX12_undoes_8 ?_
  refine kV_i (rest := []) (q0 := 0) (ci := 12) hcf (m_X12_does l dC dI cI cS s.heap.size oM mW mT mS mX mL mB mD m1 m2 mR x1 x2 x3 mH mY mE mW mO y1 y2 y3 y4 mZ 300 zt zp zf zh zr zc zy za zb zs zq zw ze zn zm zl zk zd eY eB eL eE eW b a zk (g_zt) (g_zp) (g_zf) (g_zh) (g_zr) (g_zc) (g_zy) (g_za) (g_zb) (g_zs) (g_zq) (g_zn) (g_zm) (g_zk) (g_eY) (g_eB) (g_eL) (g_eE) (g_eW) (g_b) (g_a) (g_zk) (by omega) (by omega)) kc_X12_does gX12_undoes_X12_does rfl rfl rfl ⟨Nat.le_of_ble_eq_true rfl, Nat.le_of_ble_eq_true rfl⟩ kX_t hK hP hD hS hA [0, 1, 2, 3, 4, 5] [6] rfl (by decide +kernel) rfl rfl rfl hl rfl (Nat.le_of_ble_eq_true rfl) dX12_undoes_11 ⟨Nat.le_of_ble_eq_true rfl, Nat.le_of_ble_eq_true rfl⟩ (fun r_1 H locs hB hJ hSn => ?_)
  obtain ⟨zn_1, eY_1, zd_1, zm_1, zl_1, eE_1, ⟨hP1, hD1⟩, hf1_0, hf1_1, hf1_2, hf1_3, hf1_4, hf1_5⟩ := hB
  obtain ⟨hPn, hDn⟩ := hJ _ hP1 hD1 [(mO, .inl (cI, 300, .inl eO)), (oM, .inr (12, [.ref mT, .int zt, .ref mS, .ref mX, .int zp, .int zf, .ref mL, .ref mB, .ref mD, .ref m1, .ref m2, .int zh, .ref mR, .int zr, .ref x1, .ref x2, .ref x3, .int zc, .ref mH, .int zy, .int za, .int zb, .int zs, .int zq, .int zw, .int ze, .ref mY, .int zn_1, .ref mE, .int zm_1, .int zl_1, .ref mW, .int zk, .ref mO, .int zd_1, .ref y1, .ref y2, .ref y3, .ref y4, .ref mZ])), (mY, .inl (cI, 2600, .inl eY_1)), (mB, .inl (cS, 131072, .inl eB)), (mL, .inl (cI, 512, .inl eL)), (mE, .inl (cI, 2600, .inl eE_1)), (mW, .inl (cI, 300, .inl eW))] rfl
  clear hP hD hS hJ hP1 hD1
  have hP := hPn
  have hD := hDn
  have hS := hSn
  clear hPn hDn hSn
  refine lv_if_ne (tgt := 19) hx hb dX12_undoes_14 (by decide) (fun c_2 => ?_) (fun c_2 => ?_)
  · have tc_2 : ¬ r_1.toInt = 0 := v_ne c_2
    refine lv_aload_n hx hb dX12_undoes_19 rfl (lv_at hl 0 rfl) ?_
    refine va_get (D := (dC, dI)) (ci := 12) (v := .int zm_1) (C := RX12) (T := TX12) (N := 40) hx hb hts in_X12 hown hK hP 1 rfl rfl 29 (by decide) (hts (.fieldLink RX12 119 "TextMenderModel" "cameMany" "I") (List.mem_of_getElem? (i := 3) rfl)) (fun _ h9 => h9) rfl dX12_undoes_20 ?_
    refine lv_istore_n (lv' := [(3, .int zm_1), (0, .ref oM), (1, .int a), (2, .int b)]) hx hb dX12_undoes_23 rfl hl (by decide) rfl (fun ls hl => ?_)
    refine lv_iconst (v := 0) hx hb dX12_undoes_24 (by decide) ?_
    refine lv_istore (lv' := [(4, .int 0), (3, .int zm_1), (0, .ref oM), (1, .int a), (2, .int b)]) hx hb dX12_undoes_25 hl (by decide) rfl (fun ls hl => ?_)
    have LOOP_27 : ∀ (k_27 : Nat) (k : Int32) (eOa : Nat → Int32) (H : Heap) (locs : List Loc) (ls : Array Slot), MSd (300 - k.toInt : Int) k_27 → (0 ≤ k.toInt ∧ k.toInt ≤ 300) → (rg 0 65535 eOa) → va_P (dC, dI) vwCl [(mO, .inl (cI, 300, .inl eOa)), (oM, .inr (12, [.ref mT, .int zt, .ref mS, .ref mX, .int zp, .int zf, .ref mL, .ref mB, .ref mD, .ref m1, .ref m2, .int zh, .ref mR, .int zr, .ref x1, .ref x2, .ref x3, .int zc, .ref mH, .int zy, .int za, .int zb, .int zs, .int zq, .int zw, .int ze, .ref mY, .int zn_1, .ref mE, .int zm_1, .int zl_1, .ref mW, .int zk, .ref mO, .int zd_1, .ref y1, .ref y2, .ref y3, .ref y4, .ref mZ])), (mY, .inl (cI, 2600, .inl eY_1)), (mB, .inl (cS, 131072, .inl eB)), (mL, .inl (cI, 512, .inl eL)), (mE, .inl (cI, 2600, .inl eE_1)), (mW, .inl (cI, 300, .inl eW))] H → va_D A [(mO, .inl (cI, 300, .inl eOa)), (oM, .inr (12, [.ref mT, .int zt, .ref mS, .ref mX, .int zp, .int zf, .ref mL, .ref mB, .ref mD, .ref m1, .ref m2, .int zh, .ref mR, .int zr, .ref x1, .ref x2, .ref x3, .int zc, .ref mH, .int zy, .int za, .int zb, .int zs, .int zq, .int zw, .int ze, .ref mY, .int zn_1, .ref mE, .int zm_1, .int zl_1, .ref mW, .int zk, .ref mO, .int zd_1, .ref y1, .ref y2, .ref y3, .ref y4, .ref mZ])), (mY, .inl (cI, 2600, .inl eY_1)), (mB, .inl (cS, 131072, .inl eB)), (mL, .inl (cI, 512, .inl eL)), (mE, .inl (cI, 2600, .inl eE_1)), (mW, .inl (cI, 300, .inl eW))] → va_S A s.heap H locs → lv_has ls 6 [(4, .int k), (3, .int zm_1), (0, .ref oM), (1, .int a), (2, .int b)] → W p l e (headSpec wsX12_undoes ({ frames := 4, cells := 0, slots := 0, locals := 95 } : Room)).room s m ([.ref oM, .int a, .int b] : List Value).toArray below meth c H locs 0 0 (MQ below QQ ([.ref oM, .int a, .int b] : List Value).toArray s 0 0 A) (F0 m 27 ls []) := by
      clear hP hD hS hl
      intro k_27
      induction k_27 with
      | zero =>
        intro k eOa H locs ls hm_27 g_k g_eOa hP hD hS hl
        exact ms_0 hm_27
      | succ k_27 ih_27 =>
        intro k eOa H locs ls hm_27 g_k g_eOa hP hD hS hl
        refine lv_iload hx hb dX12_undoes_27 (lv_at hl 0 rfl) ?_
        refine lv_iload_n hx hb dX12_undoes_29 rfl (lv_at hl 1 rfl) ?_
        refine lv_icmp_ge (tgt := 53) hx hb dX12_undoes_30 (by decide) (fun c_3 => ?_) (fun c_3 => ?_)
        · have tc_3 : zm_1.toInt ≤ k.toInt := v_le c_3
          have JOIN_j85 : ∀ (is0 : Int32) (znj : Int32) (zdj : Int32) (zmj : Int32) (zlj : Int32) (eYj : Nat → Int32) (eEj : Nat → Int32) (H : Heap) (locs : List Loc) (ls : Array Slot), (0 ≤ is0.toInt ∧ is0.toInt ≤ 1) → (0 ≤ znj.toInt ∧ znj.toInt ≤ 2600) → (0 ≤ zmj.toInt ∧ zmj.toInt ≤ 2600) → (rg 0 255 eYj) → (rg 0 65535 eEj) → va_P (dC, dI) vwCl [(mO, .inl (cI, 300, .inl eOa)), (oM, .inr (12, [.ref mT, .int zt, .ref mS, .ref mX, .int zp, .int zf, .ref mL, .ref mB, .ref mD, .ref m1, .ref m2, .int zh, .ref mR, .int zr, .ref x1, .ref x2, .ref x3, .int zc, .ref mH, .int zy, .int za, .int zb, .int zs, .int zq, .int zw, .int ze, .ref mY, .int znj, .ref mE, .int zmj, .int zlj, .ref mW, .int zk, .ref mO, .int zdj, .ref y1, .ref y2, .ref y3, .ref y4, .ref mZ])), (mY, .inl (cI, 2600, .inl eYj)), (mB, .inl (cS, 131072, .inl eB)), (mL, .inl (cI, 512, .inl eL)), (mE, .inl (cI, 2600, .inl eEj)), (mW, .inl (cI, 300, .inl eW))] H → va_D A [(mO, .inl (cI, 300, .inl eOa)), (oM, .inr (12, [.ref mT, .int zt, .ref mS, .ref mX, .int zp, .int zf, .ref mL, .ref mB, .ref mD, .ref m1, .ref m2, .int zh, .ref mR, .int zr, .ref x1, .ref x2, .ref x3, .int zc, .ref mH, .int zy, .int za, .int zb, .int zs, .int zq, .int zw, .int ze, .ref mY, .int znj, .ref mE, .int zmj, .int zlj, .ref mW, .int zk, .ref mO, .int zdj, .ref y1, .ref y2, .ref y3, .ref y4, .ref mZ])), (mY, .inl (cI, 2600, .inl eYj)), (mB, .inl (cS, 131072, .inl eB)), (mL, .inl (cI, 512, .inl eL)), (mE, .inl (cI, 2600, .inl eEj)), (mW, .inl (cI, 300, .inl eW))] → va_S A s.heap H locs → lv_has ls 6 [(3, .int zm_1), (0, .ref oM), (1, .int a), (2, .int b), (4, .int is0)] → W p l e (headSpec wsX12_undoes ({ frames := 4, cells := 0, slots := 0, locals := 95 } : Room)).room s m ([.ref oM, .int a, .int b] : List Value).toArray below meth c H locs 0 0 (MQ below QQ ([.ref oM, .int a, .int b] : List Value).toArray s 0 0 A) (F0 m 85 ls []) := by
            clear hP hD hS hl
            try (clear hf1_0)
            intro is0 znj zdj zmj zlj eYj eEj H locs ls g_is0 g_znj g_zmj g_eYj g_eEj hP hD hS hl
            refine lv_iconst (v := 0) hx hb dX12_undoes_85 (by decide) ?_
            refine lv_istore (lv' := [(5, .int 0), (3, .int zm_1), (0, .ref oM), (1, .int a), (2, .int b), (4, .int is0)]) hx hb dX12_undoes_86 hl (by decide) rfl (fun ls hl => ?_)
            have LOOP_88 : ∀ (k_88 : Nat) (is : Int32) (k2 : Int32) (H : Heap) (locs : List Loc) (ls : Array Slot), MSd (300 - k2.toInt : Int) k_88 → (0 ≤ is.toInt ∧ is.toInt ≤ 1) → (0 ≤ k2.toInt ∧ k2.toInt ≤ 300) → va_P (dC, dI) vwCl [(mO, .inl (cI, 300, .inl eOa)), (oM, .inr (12, [.ref mT, .int zt, .ref mS, .ref mX, .int zp, .int zf, .ref mL, .ref mB, .ref mD, .ref m1, .ref m2, .int zh, .ref mR, .int zr, .ref x1, .ref x2, .ref x3, .int zc, .ref mH, .int zy, .int za, .int zb, .int zs, .int zq, .int zw, .int ze, .ref mY, .int znj, .ref mE, .int zmj, .int zlj, .ref mW, .int zk, .ref mO, .int zdj, .ref y1, .ref y2, .ref y3, .ref y4, .ref mZ])), (mY, .inl (cI, 2600, .inl eYj)), (mB, .inl (cS, 131072, .inl eB)), (mL, .inl (cI, 512, .inl eL)), (mE, .inl (cI, 2600, .inl eEj)), (mW, .inl (cI, 300, .inl eW))] H → va_D A [(mO, .inl (cI, 300, .inl eOa)), (oM, .inr (12, [.ref mT, .int zt, .ref mS, .ref mX, .int zp, .int zf, .ref mL, .ref mB, .ref mD, .ref m1, .ref m2, .int zh, .ref mR, .int zr, .ref x1, .ref x2, .ref x3, .int zc, .ref mH, .int zy, .int za, .int zb, .int zs, .int zq, .int zw, .int ze, .ref mY, .int znj, .ref mE, .int zmj, .int zlj, .ref mW, .int zk, .ref mO, .int zdj, .ref y1, .ref y2, .ref y3, .ref y4, .ref mZ])), (mY, .inl (cI, 2600, .inl eYj)), (mB, .inl (cS, 131072, .inl eB)), (mL, .inl (cI, 512, .inl eL)), (mE, .inl (cI, 2600, .inl eEj)), (mW, .inl (cI, 300, .inl eW))] → va_S A s.heap H locs → lv_has ls 6 [(5, .int k2), (3, .int zm_1), (0, .ref oM), (1, .int a), (2, .int b), (4, .int is)] → W p l e (headSpec wsX12_undoes ({ frames := 4, cells := 0, slots := 0, locals := 95 } : Room)).room s m ([.ref oM, .int a, .int b] : List Value).toArray below meth c H locs 0 0 (MQ below QQ ([.ref oM, .int a, .int b] : List Value).toArray s 0 0 A) (F0 m 88 ls []) := by
              clear hP hD hS hl
              try (clear g_is0 hf1_0)
              intro k_88
              induction k_88 with
              | zero =>
                intro is k2 H locs ls hm_88 g_is g_k2 hP hD hS hl
                exact ms_0 hm_88
              | succ k_88 ih_88 =>
                intro is k2 H locs ls hm_88 g_is g_k2 hP hD hS hl
                refine lv_iload hx hb dX12_undoes_88 (lv_at hl 5 rfl) ?_
                refine lv_if_eq (tgt := 132) hx hb dX12_undoes_90 (by decide) (fun c_4 => ?_) (fun c_4 => ?_)
                · have tc_4 : is.toInt = 0 := v_eq c_4
                  refine lv_aload_n hx hb dX12_undoes_132 rfl (lv_at hl 2 rfl) ?_
                  refine lv_iconst (v := (-1)) hx hb dX12_undoes_133 (by decide) ?_
                  refine va_put (D := (dC, dI)) (ci := 12) (v := .int (-1)) (ty := .int) (C := RX12) (T := TX12) (N := 40) hx hb hts in_X12 tyX12 tyX12_ok nmX12 hown hK hP hD hS 1 rfl rfl 30 (by decide) (hts (.fieldLink RX12 102 "TextMenderModel" "faultAt" "I") (List.mem_of_getElem? (i := 6) rfl)) (fun _ h9 => h9) rfl (by decide +kernel) rfl rfl (Nat.le_of_ble_eq_true rfl) dX12_undoes_134 (kW (wn := [(mO, .inl (cI, 300, .inl eOa)), (oM, .inr (12, [.ref mT, .int zt, .ref mS, .ref mX, .int zp, .int zf, .ref mL, .ref mB, .ref mD, .ref m1, .ref m2, .int zh, .ref mR, .int zr, .ref x1, .ref x2, .ref x3, .int zc, .ref mH, .int zy, .int za, .int zb, .int zs, .int zq, .int zw, .int ze, .ref mY, .int znj, .ref mE, .int zmj, .int (-1), .ref mW, .int zk, .ref mO, .int zdj, .ref y1, .ref y2, .ref y3, .ref y4, .ref mZ])), (mY, .inl (cI, 2600, .inl eYj)), (mB, .inl (cS, 131072, .inl eB)), (mL, .inl (cI, 512, .inl eL)), (mE, .inl (cI, 2600, .inl eEj)), (mW, .inl (cI, 300, .inl eW))]) rfl (fun H locs hPn hDn hSn => ?_))
                  clear hP hD hS
                  have hP := hPn
                  have hD := hDn
                  have hS := hSn
                  clear hPn hDn hSn
                  refine lv_iload hx hb dX12_undoes_137 (lv_at hl 5 rfl) ?_
                  refine lv_if_ne (tgt := 144) hx hb dX12_undoes_139 (by decide) (fun c_5 => by exfalso; have tc_5 : ¬ is.toInt = 0 := v_ne c_5; omega) (fun c_5 => ?_)
                  have tc_5 : is.toInt = 0 := v_eq c_5
                  refine lv_iconst (v := 0) hx hb dX12_undoes_142 (by decide) ?_
                  exact kl_z (v := 0) hQQ hx hb hr hlocks hS dX12_undoes_143 (rfl) ⟨znj, eYj, zdj, zmj, (-1), eEj, zk, eW, eOa, kPD_sub hP hD [1, 2, 3, 4, 5, 6, 0] (by decide +kernel) rfl, g_znj, g_eYj, g_zmj, g_eEj, g_zk, g_eW, g_eOa, by decide⟩
                · have tc_4 : ¬ is.toInt = 0 := v_ne c_4
                  refine lv_iload hx hb dX12_undoes_93 (lv_at hl 0 rfl) ?_
                  refine lv_aload_n hx hb dX12_undoes_95 rfl (lv_at hl 2 rfl) ?_
                  refine va_get (D := (dC, dI)) (ci := 12) (v := .int zk) (C := RX12) (T := TX12) (N := 40) hx hb hts in_X12 hown hK hP 1 rfl rfl 32 (by decide) (hts (.fieldLink RX12 135 "TextMenderModel" "workMany" "I") (List.mem_of_getElem? (i := 2) rfl)) (fun _ h9 => h9) rfl dX12_undoes_96 ?_
                  refine lv_icmp_ge (tgt := 132) hx hb dX12_undoes_99 (by decide) (fun c_6 => ?_) (fun c_6 => ?_)
                  · have tc_6 : zk.toInt ≤ k2.toInt := v_le c_6
                    refine lv_aload_n hx hb dX12_undoes_132 rfl (lv_at hl 2 rfl) ?_
                    refine lv_iconst (v := (-1)) hx hb dX12_undoes_133 (by decide) ?_
                    refine va_put (D := (dC, dI)) (ci := 12) (v := .int (-1)) (ty := .int) (C := RX12) (T := TX12) (N := 40) hx hb hts in_X12 tyX12 tyX12_ok nmX12 hown hK hP hD hS 1 rfl rfl 30 (by decide) (hts (.fieldLink RX12 102 "TextMenderModel" "faultAt" "I") (List.mem_of_getElem? (i := 6) rfl)) (fun _ h9 => h9) rfl (by decide +kernel) rfl rfl (Nat.le_of_ble_eq_true rfl) dX12_undoes_134 (kW (wn := [(mO, .inl (cI, 300, .inl eOa)), (oM, .inr (12, [.ref mT, .int zt, .ref mS, .ref mX, .int zp, .int zf, .ref mL, .ref mB, .ref mD, .ref m1, .ref m2, .int zh, .ref mR, .int zr, .ref x1, .ref x2, .ref x3, .int zc, .ref mH, .int zy, .int za, .int zb, .int zs, .int zq, .int zw, .int ze, .ref mY, .int znj, .ref mE, .int zmj, .int (-1), .ref mW, .int zk, .ref mO, .int zdj, .ref y1, .ref y2, .ref y3, .ref y4, .ref mZ])), (mY, .inl (cI, 2600, .inl eYj)), (mB, .inl (cS, 131072, .inl eB)), (mL, .inl (cI, 512, .inl eL)), (mE, .inl (cI, 2600, .inl eEj)), (mW, .inl (cI, 300, .inl eW))]) rfl (fun H locs hPn hDn hSn => ?_))
                    clear hP hD hS
                    have hP := hPn
                    have hD := hDn
                    have hS := hSn
                    clear hPn hDn hSn
                    refine lv_iload hx hb dX12_undoes_137 (lv_at hl 5 rfl) ?_
                    refine lv_if_ne (tgt := 144) hx hb dX12_undoes_139 (by decide) (fun c_7 => ?_) (fun c_7 => by exfalso; have tc_7 : is.toInt = 0 := v_eq c_7; omega)
                    have tc_7 : ¬ is.toInt = 0 := v_ne c_7
                    refine lv_iconst (v := 0) hx hb dX12_undoes_144 (by decide) ?_
                    refine lv_istore (lv' := [(5, .int 0), (3, .int zm_1), (0, .ref oM), (1, .int a), (2, .int b), (4, .int is)]) hx hb dX12_undoes_145 hl (by decide) rfl (fun ls hl => ?_)
                    have LOOP_147 : ∀ (k_147 : Nat) (k3 : Int32) (eWa : Nat → Int32) (H : Heap) (locs : List Loc) (ls : Array Slot), MSd (300 - k3.toInt : Int) k_147 → (0 ≤ k3.toInt ∧ k3.toInt ≤ 300) → (rg 0 65535 eWa) → va_P (dC, dI) vwCl [(mO, .inl (cI, 300, .inl eOa)), (oM, .inr (12, [.ref mT, .int zt, .ref mS, .ref mX, .int zp, .int zf, .ref mL, .ref mB, .ref mD, .ref m1, .ref m2, .int zh, .ref mR, .int zr, .ref x1, .ref x2, .ref x3, .int zc, .ref mH, .int zy, .int za, .int zb, .int zs, .int zq, .int zw, .int ze, .ref mY, .int znj, .ref mE, .int zmj, .int (-1), .ref mW, .int zk, .ref mO, .int zdj, .ref y1, .ref y2, .ref y3, .ref y4, .ref mZ])), (mY, .inl (cI, 2600, .inl eYj)), (mB, .inl (cS, 131072, .inl eB)), (mL, .inl (cI, 512, .inl eL)), (mE, .inl (cI, 2600, .inl eEj)), (mW, .inl (cI, 300, .inl eWa))] H → va_D A [(mO, .inl (cI, 300, .inl eOa)), (oM, .inr (12, [.ref mT, .int zt, .ref mS, .ref mX, .int zp, .int zf, .ref mL, .ref mB, .ref mD, .ref m1, .ref m2, .int zh, .ref mR, .int zr, .ref x1, .ref x2, .ref x3, .int zc, .ref mH, .int zy, .int za, .int zb, .int zs, .int zq, .int zw, .int ze, .ref mY, .int znj, .ref mE, .int zmj, .int (-1), .ref mW, .int zk, .ref mO, .int zdj, .ref y1, .ref y2, .ref y3, .ref y4, .ref mZ])), (mY, .inl (cI, 2600, .inl eYj)), (mB, .inl (cS, 131072, .inl eB)), (mL, .inl (cI, 512, .inl eL)), (mE, .inl (cI, 2600, .inl eEj)), (mW, .inl (cI, 300, .inl eWa))] → va_S A s.heap H locs → lv_has ls 6 [(5, .int k3), (3, .int zm_1), (0, .ref oM), (1, .int a), (2, .int b), (4, .int is)] → W p l e (headSpec wsX12_undoes ({ frames := 4, cells := 0, slots := 0, locals := 95 } : Room)).room s m ([.ref oM, .int a, .int b] : List Value).toArray below meth c H locs 0 0 (MQ below QQ ([.ref oM, .int a, .int b] : List Value).toArray s 0 0 A) (F0 m 147 ls []) := by
                      clear hP hD hS hl
                      try (clear tc_7 tc_4 g_is g_is0 hf1_0)
                      intro k_147
                      induction k_147 with
                      | zero =>
                        intro k3 eWa H locs ls hm_147 g_k3 g_eWa hP hD hS hl
                        exact ms_0 hm_147
                      | succ k_147 ih_147 =>
                        intro k3 eWa H locs ls hm_147 g_k3 g_eWa hP hD hS hl
                        refine lv_iload hx hb dX12_undoes_147 (lv_at hl 0 rfl) ?_
                        refine lv_iload_n hx hb dX12_undoes_149 rfl (lv_at hl 1 rfl) ?_
                        refine lv_icmp_ge (tgt := 173) hx hb dX12_undoes_150 (by decide) (fun c_8 => ?_) (fun c_8 => ?_)
                        · have tc_8 : zm_1.toInt ≤ k3.toInt := v_le c_8
                          refine lv_aload_n hx hb dX12_undoes_173 rfl (lv_at hl 2 rfl) ?_
                          refine lv_iload_n hx hb dX12_undoes_174 rfl (lv_at hl 1 rfl) ?_
                          refine va_put (D := (dC, dI)) (ci := 12) (v := .int zm_1) (ty := .int) (C := RX12) (T := TX12) (N := 40) hx hb hts in_X12 tyX12 tyX12_ok nmX12 hown hK hP hD hS 1 rfl rfl 32 (by decide) (hts (.fieldLink RX12 135 "TextMenderModel" "workMany" "I") (List.mem_of_getElem? (i := 2) rfl)) (fun _ h9 => h9) rfl (by decide +kernel) rfl rfl (Nat.le_of_ble_eq_true rfl) dX12_undoes_175 (kW (wn := [(mO, .inl (cI, 300, .inl eOa)), (oM, .inr (12, [.ref mT, .int zt, .ref mS, .ref mX, .int zp, .int zf, .ref mL, .ref mB, .ref mD, .ref m1, .ref m2, .int zh, .ref mR, .int zr, .ref x1, .ref x2, .ref x3, .int zc, .ref mH, .int zy, .int za, .int zb, .int zs, .int zq, .int zw, .int ze, .ref mY, .int znj, .ref mE, .int zmj, .int (-1), .ref mW, .int zm_1, .ref mO, .int zdj, .ref y1, .ref y2, .ref y3, .ref y4, .ref mZ])), (mY, .inl (cI, 2600, .inl eYj)), (mB, .inl (cS, 131072, .inl eB)), (mL, .inl (cI, 512, .inl eL)), (mE, .inl (cI, 2600, .inl eEj)), (mW, .inl (cI, 300, .inl eWa))]) rfl (fun H locs hPn hDn hSn => ?_))
                          clear hP hD hS
                          have hP := hPn
                          have hD := hDn
                          have hS := hSn
                          clear hPn hDn hSn
                          refine lv_iconst (v := 1) hx hb dX12_undoes_178 (by decide) ?_
                          exact kl_z (v := 1) hQQ hx hb hr hlocks hS dX12_undoes_179 (rfl) ⟨znj, eYj, zdj, zmj, (-1), eEj, zm_1, eWa, eOa, kPD_sub hP hD [1, 2, 3, 4, 5, 6, 0] (by decide +kernel) rfl, g_znj, g_eYj, g_zmj, g_eEj, by omega, g_eWa, g_eOa, by decide⟩
                        · have tc_8 : k3.toInt < zm_1.toInt := v_nle c_8
                          refine lv_aload_n hx hb dX12_undoes_153 rfl (lv_at hl 2 rfl) ?_
                          refine va_get (D := (dC, dI)) (ci := 12) (v := .ref mW) (C := RX12) (T := TX12) (N := 40) hx hb hts in_X12 hown hK hP 1 rfl rfl 31 (by decide) (hts (.fieldLink RX12 64 "TextMenderModel" "work" "[I") (List.mem_of_getElem? (i := 1) rfl)) (fun _ h9 => h9) rfl dX12_undoes_154 ?_
                          refine lv_iload hx hb dX12_undoes_157 (lv_at hl 0 rfl) ?_
                          refine lv_aload_n hx hb dX12_undoes_159 rfl (lv_at hl 2 rfl) ?_
                          refine va_get (D := (dC, dI)) (ci := 12) (v := .ref mO) (C := RX12) (T := TX12) (N := 40) hx hb hts in_X12 hown hK hP 1 rfl rfl 33 (by decide) (hts (.fieldLink RX12 67 "TextMenderModel" "other" "[I") (List.mem_of_getElem? (i := 4) rfl)) (fun _ h9 => h9) rfl dX12_undoes_160 ?_
                          refine lv_iload hx hb dX12_undoes_163 (lv_at hl 0 rfl) ?_
                          refine va_iald hx hb hK hP 0 0 rfl rfl (v_in (by omega)) dX12_undoes_165 ?_
                          refine lv_topi (fun x_9 ex_9 => ?_)
                          have tx_9 : 0 ≤ x_9.toInt ∧ x_9.toInt ≤ 65535 := rg_at g_eOa ex_9
                          obtain ⟨f_10, ef_10⟩ : ∃ g : Nat → Int32, g = upd eWa (k3 : Int32).toNatClampNeg x_9 := ⟨_, rfl⟩
                          refine va_iast hx hb hK hP hD hS 6 0 rfl rfl (v_in (by omega)) dX12_undoes_166 (kWf (g := f_10) (F := fun f_10 => [(mO, .inl (cI, 300, .inl eOa)), (oM, .inr (12, [.ref mT, .int zt, .ref mS, .ref mX, .int zp, .int zf, .ref mL, .ref mB, .ref mD, .ref m1, .ref m2, .int zh, .ref mR, .int zr, .ref x1, .ref x2, .ref x3, .int zc, .ref mH, .int zy, .int za, .int zb, .int zs, .int zq, .int zw, .int ze, .ref mY, .int znj, .ref mE, .int zmj, .int (-1), .ref mW, .int zk, .ref mO, .int zdj, .ref y1, .ref y2, .ref y3, .ref y4, .ref mZ])), (mY, .inl (cI, 2600, .inl eYj)), (mB, .inl (cS, 131072, .inl eB)), (mL, .inl (cI, 512, .inl eL)), (mE, .inl (cI, 2600, .inl eEj)), (mW, .inl (cI, 300, .inl f_10))]) ef_10 rfl (fun H locs hPn hDn hSn => ?_))
                          clear hP hD hS
                          have hP := hPn
                          have hD := hDn
                          have hS := hSn
                          clear hPn hDn hSn
                          have g_f10 : rg 0 65535 f_10 := rg_upd ef_10 g_eWa (by omega)
                          obtain ⟨x_11, ex_11⟩ : ∃ y : Int32, y = k3 + 1 := ⟨_, rfl⟩
                          have tx_11 : x_11.toInt = k3.toInt + 1 := v_addR (l2 := 1) (h2 := 1) ex_11 g_k3 (by decide) (by decide) (by decide)
                          refine lv_iinc (v := x_11) (lv' := [(5, .int x_11), (3, .int zm_1), (0, .ref oM), (1, .int a), (2, .int b), (4, .int is)]) hx hb dX12_undoes_167 hl (k := 0) rfl (by rw [ex_11]; rfl) (by decide) rfl (fun ls hl => ?_)
                          refine lv_goto (tgt := 147) hx hb dX12_undoes_170 (by decide) ?_
                          exact ih_147 x_11 f_10 _ _ _ (ms_lt hm_147 (by show ((300 - x_11.toInt : Int)) < 300 - k3.toInt; omega) (by show (0 : Int) < 300 - k3.toInt; omega)) (by show 0 ≤ x_11.toInt ∧ x_11.toInt ≤ 300; omega) (g_f10) hP hD hS (lv_sub hl [0, 1, 2, 3, 4, 5] rfl)
                    exact LOOP_147 _ 0 eW _ _ _ (ms_s _) (by decide) (g_eW) hP hD hS (lv_sub hl [0, 1, 2, 3, 4, 5] rfl)
                  · have tc_6 : k2.toInt < zk.toInt := v_nle c_6
                    refine lv_aload_n hx hb dX12_undoes_102 rfl (lv_at hl 2 rfl) ?_
                    refine va_get (D := (dC, dI)) (ci := 12) (v := .ref mE) (C := RX12) (T := TX12) (N := 40) hx hb hts in_X12 hown hK hP 1 rfl rfl 28 (by decide) (hts (.fieldLink RX12 61 "TextMenderModel" "came" "[I") (List.mem_of_getElem? (i := 5) rfl)) (fun _ h9 => h9) rfl dX12_undoes_103 ?_
                    refine lv_iload hx hb dX12_undoes_106 (lv_at hl 0 rfl) ?_
                    refine va_iald hx hb hK hP 5 0 rfl rfl (v_inR g_k2 (by decide) (by decide)) dX12_undoes_108 ?_
                    refine lv_topi (fun x_12 ex_12 => ?_)
                    have tx_12 : 0 ≤ x_12.toInt ∧ x_12.toInt ≤ 65535 := rg_at g_eEj ex_12
                    refine lv_aload_n hx hb dX12_undoes_109 rfl (lv_at hl 2 rfl) ?_
                    refine va_get (D := (dC, dI)) (ci := 12) (v := .ref mW) (C := RX12) (T := TX12) (N := 40) hx hb hts in_X12 hown hK hP 1 rfl rfl 31 (by decide) (hts (.fieldLink RX12 64 "TextMenderModel" "work" "[I") (List.mem_of_getElem? (i := 1) rfl)) (fun _ h9 => h9) rfl dX12_undoes_110 ?_
                    refine lv_iload hx hb dX12_undoes_113 (lv_at hl 0 rfl) ?_
                    refine va_iald hx hb hK hP 6 0 rfl rfl (v_in (by omega)) dX12_undoes_115 ?_
                    refine lv_topi (fun x_13 ex_13 => ?_)
                    have tx_13 : 0 ≤ x_13.toInt ∧ x_13.toInt ≤ 65535 := rg_at g_eW ex_13
                    refine lv_icmp_ne (tgt := 123) hx hb dX12_undoes_116 (by decide) (fun c_14 => ?_) (fun c_14 => ?_)
                    · have tc_14 : ¬ x_12.toInt = x_13.toInt := v_ne c_14
                      refine lv_iconst (v := 0) hx hb dX12_undoes_123 (by decide) ?_
                      refine lv_istore (lv' := [(4, .int 0), (5, .int k2), (3, .int zm_1), (0, .ref oM), (1, .int a), (2, .int b)]) hx hb dX12_undoes_124 hl (by decide) rfl (fun ls hl => ?_)
                      obtain ⟨x_15, ex_15⟩ : ∃ y : Int32, y = k2 + 1 := ⟨_, rfl⟩
                      have tx_15 : x_15.toInt = k2.toInt + 1 := v_addR (l2 := 1) (h2 := 1) ex_15 g_k2 (by decide) (by decide) (by decide)
                      refine lv_iinc (v := x_15) (lv' := [(5, .int x_15), (4, .int 0), (3, .int zm_1), (0, .ref oM), (1, .int a), (2, .int b)]) hx hb dX12_undoes_126 hl (k := 1) rfl (by rw [ex_15]; rfl) (by decide) rfl (fun ls hl => ?_)
                      refine lv_goto (tgt := 88) hx hb dX12_undoes_129 (by decide) ?_
                      exact ih_88 0 x_15 _ _ _ (ms_lt hm_88 (by show ((300 - x_15.toInt : Int)) < 300 - k2.toInt; omega) (by show (0 : Int) < 300 - k2.toInt; omega)) (by decide) (by show 0 ≤ x_15.toInt ∧ x_15.toInt ≤ 300; omega) hP hD hS (lv_sub hl [0, 2, 3, 4, 5, 1] rfl)
                    · have tc_14 : x_12.toInt = x_13.toInt := v_eq c_14
                      refine lv_iconst (v := 1) hx hb dX12_undoes_119 (by decide) ?_
                      refine lv_goto (tgt := 124) hx hb dX12_undoes_120 (by decide) ?_
                      refine lv_istore (lv' := [(4, .int 1), (5, .int k2), (3, .int zm_1), (0, .ref oM), (1, .int a), (2, .int b)]) hx hb dX12_undoes_124 hl (by decide) rfl (fun ls hl => ?_)
                      obtain ⟨x_16, ex_16⟩ : ∃ y : Int32, y = k2 + 1 := ⟨_, rfl⟩
                      have tx_16 : x_16.toInt = k2.toInt + 1 := v_addR (l2 := 1) (h2 := 1) ex_16 g_k2 (by decide) (by decide) (by decide)
                      refine lv_iinc (v := x_16) (lv' := [(5, .int x_16), (4, .int 1), (3, .int zm_1), (0, .ref oM), (1, .int a), (2, .int b)]) hx hb dX12_undoes_126 hl (k := 1) rfl (by rw [ex_16]; rfl) (by decide) rfl (fun ls hl => ?_)
                      refine lv_goto (tgt := 88) hx hb dX12_undoes_129 (by decide) ?_
                      exact ih_88 1 x_16 _ _ _ (ms_lt hm_88 (by show ((300 - x_16.toInt : Int)) < 300 - k2.toInt; omega) (by show (0 : Int) < 300 - k2.toInt; omega)) (by decide) (by show 0 ≤ x_16.toInt ∧ x_16.toInt ≤ 300; omega) hP hD hS (lv_sub hl [0, 2, 3, 4, 5, 1] rfl)
            exact LOOP_88 _ is0 0 _ _ _ (ms_s _) (g_is0) (by decide) hP hD hS (lv_sub hl [0, 1, 2, 3, 4, 5] rfl)
          refine lv_aload_n hx hb dX12_undoes_53 rfl (lv_at hl 2 rfl) ?_
          refine lv_iload_n hx hb dX12_undoes_54 rfl (lv_at hl 3 rfl) ?_
          refine lv_iload_n hx hb dX12_undoes_55 rfl (lv_at hl 4 rfl) ?_
          refine lv_aload_n hx hb dX12_undoes_56 rfl (lv_at hl 2 rfl) ?_
          refine va_get (D := (dC, dI)) (ci := 12) (v := .ref mO) (C := RX12) (T := TX12) (N := 40) hx hb hts in_X12 hown hK hP 1 rfl rfl 33 (by decide) (hts (.fieldLink RX12 67 "TextMenderModel" "other" "[I") (List.mem_of_getElem? (i := 4) rfl)) (fun _ h9 => h9) rfl dX12_undoes_57 ?_
          refine lv_iload_n hx hb dX12_undoes_60 rfl (lv_at hl 1 rfl) ?_
          refine kV_i (rest := []) (q0 := 0) (ci := 12) hcf (m_X12_does l dC dI cI cS H.size oM mO mT mS mX mL mB mD m1 m2 mR x1 x2 x3 mH mY mE mW mO y1 y2 y3 y4 mZ 300 zt zp zf zh zr zc zy za zb zs zq zw ze zn_1 zm_1 zl_1 zk zd_1 eY_1 eB eL eE_1 eOa a b zm_1 (g_zt) (g_zp) (g_zf) (g_zh) (g_zr) (g_zc) (g_zy) (g_za) (g_zb) (g_zs) (g_zq) (hf1_0) (hf1_2) (g_zk) (hf1_1) (g_eB) (g_eL) (hf1_3) (g_eOa) (g_a) (g_b) (by omega) (by omega) (by omega)) kc_X12_does gX12_undoes_X12_does rfl rfl rfl ⟨Nat.le_of_ble_eq_true rfl, Nat.le_of_ble_eq_true rfl⟩ kX_t hK hP hD hS hA [1, 2, 3, 4, 5, 0] [6] rfl (by decide +kernel) rfl rfl rfl hl rfl (Nat.le_of_ble_eq_true rfl) dX12_undoes_61 ⟨Nat.le_of_ble_eq_true rfl, Nat.le_of_ble_eq_true rfl⟩ (fun r_17 H locs hB hJ hSn => ?_)
          obtain ⟨zn_17, eY_17, zd_17, zm_17, zl_17, eE_17, ⟨hP1, hD1⟩, hf17_0, hf17_1, hf17_2, hf17_3, hf17_4, hf17_5⟩ := hB
          obtain ⟨hPn, hDn⟩ := hJ _ hP1 hD1 [(mW, .inl (cI, 300, .inl eW)), (oM, .inr (12, [.ref mT, .int zt, .ref mS, .ref mX, .int zp, .int zf, .ref mL, .ref mB, .ref mD, .ref m1, .ref m2, .int zh, .ref mR, .int zr, .ref x1, .ref x2, .ref x3, .int zc, .ref mH, .int zy, .int za, .int zb, .int zs, .int zq, .int zw, .int ze, .ref mY, .int zn_17, .ref mE, .int zm_17, .int zl_17, .ref mW, .int zk, .ref mO, .int zd_17, .ref y1, .ref y2, .ref y3, .ref y4, .ref mZ])), (mY, .inl (cI, 2600, .inl eY_17)), (mB, .inl (cS, 131072, .inl eB)), (mL, .inl (cI, 512, .inl eL)), (mE, .inl (cI, 2600, .inl eE_17)), (mO, .inl (cI, 300, .inl eOa))] rfl
          clear hP hD hS hJ hP1 hD1
          have hP := hPn
          have hD := hDn
          have hS := hSn
          clear hPn hDn hSn
          refine lv_if_eq (tgt := 82) hx hb dX12_undoes_64 (by decide) (fun c_18 => ?_) (fun c_18 => ?_)
          · have tc_18 : r_17.toInt = 0 := v_eq c_18
            refine lv_iconst (v := 0) hx hb dX12_undoes_82 (by decide) ?_
            refine lv_istore (lv' := [(4, .int 0), (3, .int zm_1), (0, .ref oM), (1, .int a), (2, .int b)]) hx hb dX12_undoes_83 hl (by decide) rfl (fun ls hl => ?_)
            exact JOIN_j85 0 zn_17 zd_17 zm_17 zl_17 eY_17 eE_17 _ _ _ (by decide) (hf17_0) (hf17_2) (hf17_1) (hf17_3) (hP.sub [6, 1, 2, 3, 4, 5, 0] rfl) (hD.sub [6, 1, 2, 3, 4, 5, 0] (by decide +kernel) rfl) hS (lv_sub hl [1, 2, 3, 4, 0] rfl)
          · have tc_18 : ¬ r_17.toInt = 0 := v_ne c_18
            refine lv_aload_n hx hb dX12_undoes_67 rfl (lv_at hl 2 rfl) ?_
            refine va_get (D := (dC, dI)) (ci := 12) (v := .int zm_17) (C := RX12) (T := TX12) (N := 40) hx hb hts in_X12 hown hK hP 1 rfl rfl 29 (by decide) (hts (.fieldLink RX12 119 "TextMenderModel" "cameMany" "I") (List.mem_of_getElem? (i := 3) rfl)) (fun _ h9 => h9) rfl dX12_undoes_68 ?_
            refine lv_aload_n hx hb dX12_undoes_71 rfl (lv_at hl 2 rfl) ?_
            refine va_get (D := (dC, dI)) (ci := 12) (v := .int zk) (C := RX12) (T := TX12) (N := 40) hx hb hts in_X12 hown hK hP 1 rfl rfl 32 (by decide) (hts (.fieldLink RX12 135 "TextMenderModel" "workMany" "I") (List.mem_of_getElem? (i := 2) rfl)) (fun _ h9 => h9) rfl dX12_undoes_72 ?_
            refine lv_icmp_ne (tgt := 82) hx hb dX12_undoes_75 (by decide) (fun c_19 => ?_) (fun c_19 => ?_)
            · have tc_19 : ¬ zm_17.toInt = zk.toInt := v_ne c_19
              refine lv_iconst (v := 0) hx hb dX12_undoes_82 (by decide) ?_
              refine lv_istore (lv' := [(4, .int 0), (3, .int zm_1), (0, .ref oM), (1, .int a), (2, .int b)]) hx hb dX12_undoes_83 hl (by decide) rfl (fun ls hl => ?_)
              exact JOIN_j85 0 zn_17 zd_17 zm_17 zl_17 eY_17 eE_17 _ _ _ (by decide) (hf17_0) (hf17_2) (hf17_1) (hf17_3) (hP.sub [6, 1, 2, 3, 4, 5, 0] rfl) (hD.sub [6, 1, 2, 3, 4, 5, 0] (by decide +kernel) rfl) hS (lv_sub hl [1, 2, 3, 4, 0] rfl)
            · have tc_19 : zm_17.toInt = zk.toInt := v_eq c_19
              refine lv_iconst (v := 1) hx hb dX12_undoes_78 (by decide) ?_
              refine lv_goto (tgt := 83) hx hb dX12_undoes_79 (by decide) ?_
              refine lv_istore (lv' := [(4, .int 1), (3, .int zm_1), (0, .ref oM), (1, .int a), (2, .int b)]) hx hb dX12_undoes_83 hl (by decide) rfl (fun ls hl => ?_)
              exact JOIN_j85 1 zn_17 zd_17 zm_17 zl_17 eY_17 eE_17 _ _ _ (by decide) (hf17_0) (hf17_2) (hf17_1) (hf17_3) (hP.sub [6, 1, 2, 3, 4, 5, 0] rfl) (hD.sub [6, 1, 2, 3, 4, 5, 0] (by decide +kernel) rfl) hS (lv_sub hl [1, 2, 3, 4, 0] rfl)
        · have tc_3 : k.toInt < zm_1.toInt := v_nle c_3
          refine lv_aload_n hx hb dX12_undoes_33 rfl (lv_at hl 2 rfl) ?_
          refine va_get (D := (dC, dI)) (ci := 12) (v := .ref mO) (C := RX12) (T := TX12) (N := 40) hx hb hts in_X12 hown hK hP 1 rfl rfl 33 (by decide) (hts (.fieldLink RX12 67 "TextMenderModel" "other" "[I") (List.mem_of_getElem? (i := 4) rfl)) (fun _ h9 => h9) rfl dX12_undoes_34 ?_
          refine lv_iload hx hb dX12_undoes_37 (lv_at hl 0 rfl) ?_
          refine lv_aload_n hx hb dX12_undoes_39 rfl (lv_at hl 2 rfl) ?_
          refine va_get (D := (dC, dI)) (ci := 12) (v := .ref mE) (C := RX12) (T := TX12) (N := 40) hx hb hts in_X12 hown hK hP 1 rfl rfl 28 (by decide) (hts (.fieldLink RX12 61 "TextMenderModel" "came" "[I") (List.mem_of_getElem? (i := 5) rfl)) (fun _ h9 => h9) rfl dX12_undoes_40 ?_
          refine lv_iload hx hb dX12_undoes_43 (lv_at hl 0 rfl) ?_
          refine va_iald hx hb hK hP 5 0 rfl rfl (v_inR g_k (by decide) (by decide)) dX12_undoes_45 ?_
          refine lv_topi (fun x_20 ex_20 => ?_)
          have tx_20 : 0 ≤ x_20.toInt ∧ x_20.toInt ≤ 65535 := rg_at hf1_3 ex_20
          obtain ⟨f_21, ef_21⟩ : ∃ g : Nat → Int32, g = upd eOa (k : Int32).toNatClampNeg x_20 := ⟨_, rfl⟩
          refine va_iast hx hb hK hP hD hS 0 0 rfl rfl (v_in (by omega)) dX12_undoes_46 (kWf (g := f_21) (F := fun f_21 => [(mO, .inl (cI, 300, .inl f_21)), (oM, .inr (12, [.ref mT, .int zt, .ref mS, .ref mX, .int zp, .int zf, .ref mL, .ref mB, .ref mD, .ref m1, .ref m2, .int zh, .ref mR, .int zr, .ref x1, .ref x2, .ref x3, .int zc, .ref mH, .int zy, .int za, .int zb, .int zs, .int zq, .int zw, .int ze, .ref mY, .int zn_1, .ref mE, .int zm_1, .int zl_1, .ref mW, .int zk, .ref mO, .int zd_1, .ref y1, .ref y2, .ref y3, .ref y4, .ref mZ])), (mY, .inl (cI, 2600, .inl eY_1)), (mB, .inl (cS, 131072, .inl eB)), (mL, .inl (cI, 512, .inl eL)), (mE, .inl (cI, 2600, .inl eE_1)), (mW, .inl (cI, 300, .inl eW))]) ef_21 rfl (fun H locs hPn hDn hSn => ?_))
          clear hP hD hS
          have hP := hPn
          have hD := hDn
          have hS := hSn
          clear hPn hDn hSn
          have g_f21 : rg 0 65535 f_21 := rg_upd ef_21 g_eOa (by omega)
          obtain ⟨x_22, ex_22⟩ : ∃ y : Int32, y = k + 1 := ⟨_, rfl⟩
          have tx_22 : x_22.toInt = k.toInt + 1 := v_addR (l2 := 1) (h2 := 1) ex_22 g_k (by decide) (by decide) (by decide)
          refine lv_iinc (v := x_22) (lv' := [(4, .int x_22), (3, .int zm_1), (0, .ref oM), (1, .int a), (2, .int b)]) hx hb dX12_undoes_47 hl (k := 0) rfl (by rw [ex_22]; rfl) (by decide) rfl (fun ls hl => ?_)
          refine lv_goto (tgt := 27) hx hb dX12_undoes_50 (by decide) ?_
          exact ih_27 x_22 f_21 _ _ _ (ms_lt hm_27 (by show ((300 - x_22.toInt : Int)) < 300 - k.toInt; omega) (by show (0 : Int) < 300 - k.toInt; omega)) (by show 0 ≤ x_22.toInt ∧ x_22.toInt ≤ 300; omega) (g_f21) hP hD hS (lv_sub hl [0, 1, 2, 3, 4] rfl)
    exact LOOP_27 _ 0 eO _ _ _ (ms_s _) (by decide) (g_eO) hP hD hS (lv_sub hl [0, 1, 2, 3, 4] rfl)
  · have tc_2 : r_1.toInt = 0 := v_eq c_2
    refine lv_iconst (v := 0) hx hb dX12_undoes_17 (by decide) ?_
    exact kl_z (v := 0) hQQ hx hb hr hlocks hS dX12_undoes_18 (rfl) ⟨zn_1, eY_1, zd_1, zm_1, zl_1, eE_1, zk, eW, eO, kPD_sub hP hD [1, 2, 3, 4, 5, 6, 0] (by decide +kernel) rfl, hf1_0, hf1_1, hf1_2, hf1_3, g_zk, g_eW, g_eO, by decide⟩

set_option maxHeartbeats 40000000 in
set_option maxRecDepth 100000 in
theorem m_X12_takeText (l : Launch) (dC : Nat → ClassId) (dI : Nat → Nat → Nat) (cI cS : ClassId) (sz : Nat) (oM : Nat) (mT : Nat) (mS : Nat) (mX : Nat) (mL : Nat) (mB : Nat) (mD : Nat) (m1 : Nat) (m2 : Nat) (mR : Nat) (x1 : Nat) (x2 : Nat) (x3 : Nat) (mH : Nat) (mY : Nat) (mE : Nat) (mW : Nat) (mO : Nat) (y1 : Nat) (y2 : Nat) (y3 : Nat) (y4 : Nat) (mZ : Nat) (zt : Int32) (zp : Int32) (zf : Int32) (zh : Int32) (zr : Int32) (zc : Int32) (zy : Int32) (za : Int32) (zb : Int32) (zs : Int32) (zq : Int32) (zw : Int32) (ze : Int32) (zn : Int32) (zm : Int32) (zl : Int32) (zk : Int32) (zd : Int32) (eS : Nat → Int32) (eX : Nat → Int32) (eW : Nat → Int32) (g_zt : 0 ≤ zt.toInt ∧ zt.toInt ≤ 900) (g_zp : 0 ≤ zp.toInt ∧ zp.toInt ≤ 20) (g_zf : 0 ≤ zf.toInt ∧ zf.toInt ≤ 19) (g_zh : 0 ≤ zh.toInt ∧ zh.toInt ≤ 6) (g_zr : 0 ≤ zr.toInt ∧ zr.toInt ≤ 258) (g_zc : 0 ≤ zc.toInt ∧ zc.toInt ≤ 300) (g_zy : 0 ≤ zy.toInt ∧ zy.toInt ≤ 65536) (g_za : 0 ≤ za.toInt ∧ za.toInt ≤ 5) (g_zb : 0 ≤ zb.toInt ∧ zb.toInt ≤ 5) (g_zs : 0 ≤ zs.toInt ∧ zs.toInt ≤ 2000000) (g_zq : -1 ≤ zq.toInt ∧ zq.toInt ≤ 2000000) (g_zn : 0 ≤ zn.toInt ∧ zn.toInt ≤ 2600) (g_zm : 0 ≤ zm.toInt ∧ zm.toInt ≤ 2600) (g_zk : 0 ≤ zk.toInt ∧ zk.toInt ≤ 300) (g_eS : rg 0 300 eS) (g_eX : rg 0 65535 eX) (g_eW : rg 0 65535 eW) : kMv l yX12_takeText wsX12_takeText ({ frames := 0, cells := 0, slots := 0, locals := 0 } : Room) [.ref oM] sz (dC, dI) vwCl [(cI, .int), (cS, .short)] [(oM, .inr (12, [.ref mT, .int zt, .ref mS, .ref mX, .int zp, .int zf, .ref mL, .ref mB, .ref mD, .ref m1, .ref m2, .int zh, .ref mR, .int zr, .ref x1, .ref x2, .ref x3, .int zc, .ref mH, .int zy, .int za, .int zb, .int zs, .int zq, .int zw, .int ze, .ref mY, .int zn, .ref mE, .int zm, .int zl, .ref mW, .int zk, .ref mO, .int zd, .ref y1, .ref y2, .ref y3, .ref y4, .ref mZ])), (mS, .inl (cI, 21, .inl eS)), (mX, .inl (cI, 6300, .inl eX)), (mW, .inl (cI, 300, .inl eW))] (fun _ => True) 0 0 (fun (A : Nat → Prop) (hh9 : Heap) => ∃ (zk' : Int32) (eW' : Nat → Int32), kPD (dC, dI) vwCl A [(oM, .inr (12, [.ref mT, .int zt, .ref mS, .ref mX, .int zp, .int zf, .ref mL, .ref mB, .ref mD, .ref m1, .ref m2, .int zh, .ref mR, .int zr, .ref x1, .ref x2, .ref x3, .int zc, .ref mH, .int zy, .int za, .int zb, .int zs, .int zq, .int zw, .int ze, .ref mY, .int zn, .ref mE, .int zm, .int zl, .ref mW, .int zk', .ref mO, .int zd, .ref y1, .ref y2, .ref y3, .ref y4, .ref mZ])), (mS, .inl (cI, 21, .inl eS)), (mX, .inl (cI, 6300, .inl eX)), (mW, .inl (cI, 300, .inl eW'))] hh9 ∧ (0 ≤ zk'.toInt ∧ zk'.toInt ≤ 300) ∧ (rg 0 65535 eW')) := by
  refine kMv_of (cc := cX12_takeText) (maxL := 2) (ret := none) (lv := [(0, .ref oM)]) (by decide +kernel) rfl rfl (Nat.le_of_ble_eq_true rfl) ?_
  intro p e s m below meth c A QQ ls hx hb hr hts hml hown hlocks hA hQQ hK hX hP hD hS hl
  have hown : s.vm.findClass RX12 = some m.cls := hown
  have hcf := k_cf hx hb hml hown hts
  have in_X12 : ∀ w ∈ wsX120, w ∈ wsX12_takeText := fun _ h => List.mem_cons_of_mem _ (List.mem_append_right _ (h))
  replace g_zk := hid g_zk
  refine lv_aload_n hx hb dX12_takeText_0 rfl (lv_at hl 0 rfl) ?_
  refine lv_aload_n hx hb dX12_takeText_1 rfl (lv_at hl 0 rfl) ?_
  refine va_get (D := (dC, dI)) (ci := 12) (v := .ref mS) (C := RX12) (T := TX12) (N := 40) hx hb hts in_X12 hown hK hP 0 rfl rfl 2 (by decide) (hts (.fieldLink RX12 13 "TextMenderModel" "sizes" "[I") (List.mem_of_getElem? (i := 1) rfl)) (fun _ h9 => h9) rfl dX12_takeText_2 ?_
  refine lv_iconst (v := 0) hx hb dX12_takeText_5 (by decide) ?_
  refine va_iald hx hb hK hP 1 0 rfl rfl (by unfold vp_in; decide) dX12_takeText_6 ?_
  refine lv_topi (fun x_1 ex_1 => ?_)
  have tx_1 : 0 ≤ x_1.toInt ∧ x_1.toInt ≤ 300 := rg_at g_eS ex_1
  refine va_put (D := (dC, dI)) (ci := 12) (v := .int x_1) (ty := .int) (C := RX12) (T := TX12) (N := 40) hx hb hts in_X12 tyX12 tyX12_ok nmX12 hown hK hP hD hS 0 rfl rfl 32 (by decide) (hts (.fieldLink RX12 135 "TextMenderModel" "workMany" "I") (List.mem_of_getElem? (i := 2) rfl)) (fun _ h9 => h9) rfl (by decide +kernel) rfl rfl (Nat.le_of_ble_eq_true rfl) dX12_takeText_7 (kW (wn := [(oM, .inr (12, [.ref mT, .int zt, .ref mS, .ref mX, .int zp, .int zf, .ref mL, .ref mB, .ref mD, .ref m1, .ref m2, .int zh, .ref mR, .int zr, .ref x1, .ref x2, .ref x3, .int zc, .ref mH, .int zy, .int za, .int zb, .int zs, .int zq, .int zw, .int ze, .ref mY, .int zn, .ref mE, .int zm, .int zl, .ref mW, .int x_1, .ref mO, .int zd, .ref y1, .ref y2, .ref y3, .ref y4, .ref mZ])), (mS, .inl (cI, 21, .inl eS)), (mX, .inl (cI, 6300, .inl eX)), (mW, .inl (cI, 300, .inl eW))]) rfl (fun H locs hPn hDn hSn => ?_))
  clear hP hD hS
  have hP := hPn
  have hD := hDn
  have hS := hSn
  clear hPn hDn hSn
  refine lv_iconst (v := 0) hx hb dX12_takeText_10 (by decide) ?_
  refine lv_istore_n (lv' := [(1, .int 0), (0, .ref oM)]) hx hb dX12_takeText_11 rfl hl (by decide) rfl (fun ls hl => ?_)
  have LOOP_12 : ∀ (k_12 : Nat) (k : Int32) (eWa : Nat → Int32) (H : Heap) (locs : List Loc) (ls : Array Slot), MSd (300 - k.toInt : Int) k_12 → (0 ≤ k.toInt ∧ k.toInt ≤ 300) → (rg 0 65535 eWa) → va_P (dC, dI) vwCl [(oM, .inr (12, [.ref mT, .int zt, .ref mS, .ref mX, .int zp, .int zf, .ref mL, .ref mB, .ref mD, .ref m1, .ref m2, .int zh, .ref mR, .int zr, .ref x1, .ref x2, .ref x3, .int zc, .ref mH, .int zy, .int za, .int zb, .int zs, .int zq, .int zw, .int ze, .ref mY, .int zn, .ref mE, .int zm, .int zl, .ref mW, .int x_1, .ref mO, .int zd, .ref y1, .ref y2, .ref y3, .ref y4, .ref mZ])), (mS, .inl (cI, 21, .inl eS)), (mX, .inl (cI, 6300, .inl eX)), (mW, .inl (cI, 300, .inl eWa))] H → va_D A [(oM, .inr (12, [.ref mT, .int zt, .ref mS, .ref mX, .int zp, .int zf, .ref mL, .ref mB, .ref mD, .ref m1, .ref m2, .int zh, .ref mR, .int zr, .ref x1, .ref x2, .ref x3, .int zc, .ref mH, .int zy, .int za, .int zb, .int zs, .int zq, .int zw, .int ze, .ref mY, .int zn, .ref mE, .int zm, .int zl, .ref mW, .int x_1, .ref mO, .int zd, .ref y1, .ref y2, .ref y3, .ref y4, .ref mZ])), (mS, .inl (cI, 21, .inl eS)), (mX, .inl (cI, 6300, .inl eX)), (mW, .inl (cI, 300, .inl eWa))] → va_S A s.heap H locs → lv_has ls 2 [(1, .int k), (0, .ref oM)] → W p l e (headSpec wsX12_takeText ({ frames := 0, cells := 0, slots := 0, locals := 0 } : Room)).room s m ([.ref oM] : List Value).toArray below meth c H locs 0 0 (MQ below QQ ([.ref oM] : List Value).toArray s 0 0 A) (F0 m 12 ls []) := by
    clear hP hD hS hl
    intro k_12
    induction k_12 with
    | zero =>
      intro k eWa H locs ls hm_12 g_k g_eWa hP hD hS hl
      exact ms_0 hm_12
    | succ k_12 ih_12 =>
      intro k eWa H locs ls hm_12 g_k g_eWa hP hD hS hl
      refine lv_iload_n hx hb dX12_takeText_12 rfl (lv_at hl 0 rfl) ?_
      refine lv_aload_n hx hb dX12_takeText_13 rfl (lv_at hl 1 rfl) ?_
      refine va_get (D := (dC, dI)) (ci := 12) (v := .int x_1) (C := RX12) (T := TX12) (N := 40) hx hb hts in_X12 hown hK hP 0 rfl rfl 32 (by decide) (hts (.fieldLink RX12 135 "TextMenderModel" "workMany" "I") (List.mem_of_getElem? (i := 2) rfl)) (fun _ h9 => h9) rfl dX12_takeText_14 ?_
      refine lv_icmp_ge (tgt := 38) hx hb dX12_takeText_17 (by decide) (fun c_2 => ?_) (fun c_2 => ?_)
      · have tc_2 : x_1.toInt ≤ k.toInt := v_le c_2
        exact kl_v hQQ hx hb hr hlocks hS dX12_takeText_38 ⟨x_1, eWa, ⟨hP, hD⟩, v_rr tx_1 (by decide) (by decide), g_eWa⟩
      · have tc_2 : k.toInt < x_1.toInt := v_nle c_2
        refine lv_aload_n hx hb dX12_takeText_20 rfl (lv_at hl 1 rfl) ?_
        refine va_get (D := (dC, dI)) (ci := 12) (v := .ref mW) (C := RX12) (T := TX12) (N := 40) hx hb hts in_X12 hown hK hP 0 rfl rfl 31 (by decide) (hts (.fieldLink RX12 64 "TextMenderModel" "work" "[I") (List.mem_of_getElem? (i := 3) rfl)) (fun _ h9 => h9) rfl dX12_takeText_21 ?_
        refine lv_iload_n hx hb dX12_takeText_24 rfl (lv_at hl 0 rfl) ?_
        refine lv_aload_n hx hb dX12_takeText_25 rfl (lv_at hl 1 rfl) ?_
        refine va_get (D := (dC, dI)) (ci := 12) (v := .ref mX) (C := RX12) (T := TX12) (N := 40) hx hb hts in_X12 hown hK hP 0 rfl rfl 3 (by decide) (hts (.fieldLink RX12 16 "TextMenderModel" "texts" "[I") (List.mem_of_getElem? (i := 4) rfl)) (fun _ h9 => h9) rfl dX12_takeText_26 ?_
        refine lv_iload_n hx hb dX12_takeText_29 rfl (lv_at hl 0 rfl) ?_
        refine va_iald hx hb hK hP 2 0 rfl rfl (v_inR g_k (by decide) (by decide)) dX12_takeText_30 ?_
        refine lv_topi (fun x_3 ex_3 => ?_)
        have tx_3 : 0 ≤ x_3.toInt ∧ x_3.toInt ≤ 65535 := rg_at g_eX ex_3
        obtain ⟨f_4, ef_4⟩ : ∃ g : Nat → Int32, g = upd eWa (k : Int32).toNatClampNeg x_3 := ⟨_, rfl⟩
        refine va_iast hx hb hK hP hD hS 3 0 rfl rfl (v_in (by omega)) dX12_takeText_31 (kWf (g := f_4) (F := fun f_4 => [(oM, .inr (12, [.ref mT, .int zt, .ref mS, .ref mX, .int zp, .int zf, .ref mL, .ref mB, .ref mD, .ref m1, .ref m2, .int zh, .ref mR, .int zr, .ref x1, .ref x2, .ref x3, .int zc, .ref mH, .int zy, .int za, .int zb, .int zs, .int zq, .int zw, .int ze, .ref mY, .int zn, .ref mE, .int zm, .int zl, .ref mW, .int x_1, .ref mO, .int zd, .ref y1, .ref y2, .ref y3, .ref y4, .ref mZ])), (mS, .inl (cI, 21, .inl eS)), (mX, .inl (cI, 6300, .inl eX)), (mW, .inl (cI, 300, .inl f_4))]) ef_4 rfl (fun H locs hPn hDn hSn => ?_))
        clear hP hD hS
        have hP := hPn
        have hD := hDn
        have hS := hSn
        clear hPn hDn hSn
        have g_f4 : rg 0 65535 f_4 := rg_upd ef_4 g_eWa (by omega)
        obtain ⟨x_5, ex_5⟩ : ∃ y : Int32, y = k + 1 := ⟨_, rfl⟩
        have tx_5 : x_5.toInt = k.toInt + 1 := v_addR (l2 := 1) (h2 := 1) ex_5 g_k (by decide) (by decide) (by decide)
        refine lv_iinc (v := x_5) (lv' := [(1, .int x_5), (0, .ref oM)]) hx hb dX12_takeText_32 hl (k := 0) rfl (by rw [ex_5]; rfl) (by decide) rfl (fun ls hl => ?_)
        refine lv_goto (tgt := 12) hx hb dX12_takeText_35 (by decide) ?_
        exact ih_12 x_5 f_4 _ _ _ (ms_lt hm_12 (by show ((300 - x_5.toInt : Int)) < 300 - k.toInt; omega) (by show (0 : Int) < 300 - k.toInt; omega)) (by show 0 ≤ x_5.toInt ∧ x_5.toInt ≤ 300; omega) (g_f4) hP hD hS (lv_sub hl [0, 1] rfl)
  exact LOOP_12 _ 0 eW _ _ _ (ms_s _) (by decide) (g_eW) hP hD hS (lv_sub hl [0, 1] rfl)

end
