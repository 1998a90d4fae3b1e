theorem dX12_isCode_0 : decode cX12_isCode 0 = .ok (.iload_n 0, 1) := by decide +kernel
theorem dX12_isCode_1 : decode cX12_isCode 1 = .ok (.ifCond .lt 13, 3) := by decide +kernel
theorem dX12_isCode_14 : decode cX12_isCode 14 = .ok (.iconst 0, 1) := by decide +kernel
theorem dX12_isCode_15 : decode cX12_isCode 15 = .ok (.ireturn, 1) := by decide +kernel
theorem dX12_isCode_4 : decode cX12_isCode 4 = .ok (.iload_n 0, 1) := by decide +kernel
theorem dX12_isCode_5 : decode cX12_isCode 5 = .ok (.bipush 6, 2) := by decide +kernel
theorem dX12_isCode_7 : decode cX12_isCode 7 = .ok (.if_icmp .ge 7, 3) := by decide +kernel
theorem dX12_isCode_10 : decode cX12_isCode 10 = .ok (.iconst 1, 1) := by decide +kernel
theorem dX12_isCode_11 : decode cX12_isCode 11 = .ok (.goto 4, 3) := by decide +kernel
theorem dX12_isLetter_0 : decode cX12_isLetter 0 = .ok (.iload_n 0, 1) := by decide +kernel
theorem dX12_isLetter_1 : decode cX12_isLetter 1 = .ok (.ifCond .lt 25, 3) := by decide +kernel
theorem dX12_isLetter_26 : decode cX12_isLetter 26 = .ok (.iconst 0, 1) := by decide +kernel
theorem dX12_isLetter_27 : decode cX12_isLetter 27 = .ok (.ireturn, 1) := by decide +kernel
theorem dX12_isLetter_4 : decode cX12_isLetter 4 = .ok (.iload_n 0, 1) := by decide +kernel
theorem dX12_isLetter_5 : decode cX12_isLetter 5 = .ok (.ldc 88, 2) := by decide +kernel
theorem dX12_isLetter_7 : decode cX12_isLetter 7 = .ok (.if_icmp .ge 19, 3) := by decide +kernel
theorem dX12_isLetter_10 : decode cX12_isLetter 10 = .ok (.iload_n 0, 1) := by decide +kernel
theorem dX12_isLetter_11 : decode cX12_isLetter 11 = .ok (.ldc 89, 2) := by decide +kernel
theorem dX12_isLetter_13 : decode cX12_isLetter 13 = .ok (.if_icmp .lt 9, 3) := by decide +kernel
theorem dX12_isLetter_22 : decode cX12_isLetter 22 = .ok (.iconst 1, 1) := by decide +kernel
theorem dX12_isLetter_23 : decode cX12_isLetter 23 = .ok (.goto 4, 3) := by decide +kernel
theorem dX12_isLetter_16 : decode cX12_isLetter 16 = .ok (.iload_n 0, 1) := by decide +kernel
theorem dX12_isLetter_17 : decode cX12_isLetter 17 = .ok (.ldc 90, 2) := by decide +kernel
theorem dX12_isLetter_19 : decode cX12_isLetter 19 = .ok (.if_icmp .le 7, 3) := by decide +kernel
theorem dX12_goesOn_0 : decode cX12_goesOn 0 = .ok (.iload_n 0, 1) := by decide +kernel
theorem dX12_goesOn_1 : decode cX12_goesOn 1 = .ok (.sipush 128, 3) := by decide +kernel
theorem dX12_goesOn_4 : decode cX12_goesOn 4 = .ok (.if_icmp .lt 14, 3) := by decide +kernel
theorem dX12_goesOn_18 : decode cX12_goesOn 18 = .ok (.iconst 0, 1) := by decide +kernel
theorem dX12_goesOn_19 : decode cX12_goesOn 19 = .ok (.ireturn, 1) := by decide +kernel
theorem dX12_goesOn_7 : decode cX12_goesOn 7 = .ok (.iload_n 0, 1) := by decide +kernel
theorem dX12_goesOn_8 : decode cX12_goesOn 8 = .ok (.sipush 192, 3) := by decide +kernel
theorem dX12_goesOn_11 : decode cX12_goesOn 11 = .ok (.if_icmp .ge 7, 3) := by decide +kernel
theorem dX12_goesOn_14 : decode cX12_goesOn 14 = .ok (.iconst 1, 1) := by decide +kernel
theorem dX12_goesOn_15 : decode cX12_goesOn 15 = .ok (.goto 4, 3) := by decide +kernel
theorem dX12_put_0 : decode cX12_put 0 = .ok (.aload_n 0, 1) := by decide +kernel
theorem dX12_put_1 : decode cX12_put 1 = .ok (.getfield 58, 3) := by decide +kernel
theorem dX12_put_4 : decode cX12_put 4 = .ok (.aload_n 0, 1) := by decide +kernel
theorem dX12_put_5 : decode cX12_put 5 = .ok (.getfield 91, 3) := by decide +kernel
theorem dX12_put_8 : decode cX12_put 8 = .ok (.iload_n 1, 1) := by decide +kernel
theorem dX12_put_9 : decode cX12_put 9 = .ok (.iastore, 1) := by decide +kernel
theorem dX12_put_10 : decode cX12_put 10 = .ok (.aload_n 0, 1) := by decide +kernel
theorem dX12_put_11 : decode cX12_put 11 = .ok (.dup, 1) := by decide +kernel
theorem dX12_put_12 : decode cX12_put 12 = .ok (.getfield 91, 3) := by decide +kernel
theorem dX12_put_15 : decode cX12_put 15 = .ok (.iconst 1, 1) := by decide +kernel
theorem dX12_put_16 : decode cX12_put 16 = .ok (.iadd, 1) := by decide +kernel
theorem dX12_put_17 : decode cX12_put 17 = .ok (.putfield 91, 3) := by decide +kernel
theorem dX12_put_20 : decode cX12_put 20 = .ok (.return_, 1) := by decide +kernel
theorem dX12_writeLetter_0 : decode cX12_writeLetter 0 = .ok (.iload_n 1, 1) := by decide +kernel
theorem dX12_writeLetter_1 : decode cX12_writeLetter 1 = .ok (.iconst 2, 1) := by decide +kernel
theorem dX12_writeLetter_2 : decode cX12_writeLetter 2 = .ok (.if_icmp .ge 29, 3) := by decide +kernel
theorem dX12_writeLetter_31 : decode cX12_writeLetter 31 = .ok (.iload_n 1, 1) := by decide +kernel
theorem dX12_writeLetter_32 : decode cX12_writeLetter 32 = .ok (.iconst 2, 1) := by decide +kernel
theorem dX12_writeLetter_33 : decode cX12_writeLetter 33 = .ok (.if_icmp .ne 95, 3) := by decide +kernel
theorem dX12_writeLetter_128 : decode cX12_writeLetter 128 = .ok (.iload_n 1, 1) := by decide +kernel
theorem dX12_writeLetter_129 : decode cX12_writeLetter 129 = .ok (.iconst 3, 1) := by decide +kernel
theorem dX12_writeLetter_130 : decode cX12_writeLetter 130 = .ok (.if_icmp .ne 88, 3) := by decide +kernel
theorem dX12_writeLetter_218 : decode cX12_writeLetter 218 = .ok (.aload_n 0, 1) := by decide +kernel
theorem dX12_writeLetter_219 : decode cX12_writeLetter 219 = .ok (.getfield 23, 3) := by decide +kernel
theorem dX12_writeLetter_222 : decode cX12_writeLetter 222 = .ok (.ldc 88, 2) := by decide +kernel
theorem dX12_writeLetter_224 : decode cX12_writeLetter 224 = .ok (.iload_n 1, 1) := by decide +kernel
theorem dX12_writeLetter_225 : decode cX12_writeLetter 225 = .ok (.iconst 4, 1) := by decide +kernel
theorem dX12_writeLetter_226 : decode cX12_writeLetter 226 = .ok (.isub, 1) := by decide +kernel
theorem dX12_writeLetter_227 : decode cX12_writeLetter 227 = .ok (.imul, 1) := by decide +kernel
theorem dX12_writeLetter_228 : decode cX12_writeLetter 228 = .ok (.iload_n 2, 1) := by decide +kernel
theorem dX12_writeLetter_229 : decode cX12_writeLetter 229 = .ok (.iadd, 1) := by decide +kernel
theorem dX12_writeLetter_230 : decode cX12_writeLetter 230 = .ok (.saload, 1) := by decide +kernel
theorem dX12_writeLetter_231 : decode cX12_writeLetter 231 = .ok (.istore_n 3, 1) := by decide +kernel
theorem dX12_writeLetter_232 : decode cX12_writeLetter 232 = .ok (.iload_n 3, 1) := by decide +kernel
theorem dX12_writeLetter_233 : decode cX12_writeLetter 233 = .ok (.iconst (-1), 1) := by decide +kernel
theorem dX12_writeLetter_234 : decode cX12_writeLetter 234 = .ok (.if_icmp .ne 5, 3) := by decide +kernel
theorem dX12_writeLetter_239 : decode cX12_writeLetter 239 = .ok (.aload_n 0, 1) := by decide +kernel
theorem dX12_writeLetter_240 : decode cX12_writeLetter 240 = .ok (.iload_n 3, 1) := by decide +kernel
set_option maxRecDepth 20000 in
theorem ggX12_writeLetter_X12_put : GoodIn wsX12_writeLetter wsX12_put := goodIn_r _ [7, 8, 9, 10, 11, 12, 13, 14, 15, 16, 17, 18, 19, 20, 21, 22, 23, 24, 25, 26, 27, 28, 29, 30, 31, 32, 33, 34, 35, 36, 37, 38, 39, 40, 41, 42, 43, 44, 45, 46, 47, 48, 49] rfl (by decide +kernel)
set_option maxRecDepth 20000 in
theorem gX12_writeLetter_X12_put : GoodIn wsX12_writeLetter (wsV RX12 94 RX12 yX12_put wsX12_put) := goodIn_app (goodIn_r _ [3, 4, 5, 6] rfl (by decide +kernel)) ggX12_writeLetter_X12_put
theorem dX12_writeLetter_241 : decode cX12_writeLetter 241 = .ok (.invokevirtual 94, 3) := by decide +kernel
theorem dX12_writeLetter_244 : decode cX12_writeLetter 244 = .ok (.iconst 1, 1) := by decide +kernel
theorem dX12_writeLetter_245 : decode cX12_writeLetter 245 = .ok (.ireturn, 1) := by decide +kernel
theorem dX12_writeLetter_237 : decode cX12_writeLetter 237 = .ok (.iconst 0, 1) := by decide +kernel
theorem dX12_writeLetter_238 : decode cX12_writeLetter 238 = .ok (.ireturn, 1) := by decide +kernel
theorem dX12_writeLetter_133 : decode cX12_writeLetter 133 = .ok (.iload_n 2, 1) := by decide +kernel
theorem dX12_writeLetter_134 : decode cX12_writeLetter 134 = .ok (.sipush 128, 3) := by decide +kernel
theorem dX12_writeLetter_137 : decode cX12_writeLetter 137 = .ok (.if_icmp .ge 17, 3) := by decide +kernel
theorem dX12_writeLetter_154 : decode cX12_writeLetter 154 = .ok (.aload_n 0, 1) := by decide +kernel
theorem dX12_writeLetter_155 : decode cX12_writeLetter 155 = .ok (.bipush 38, 2) := by decide +kernel
theorem dX12_writeLetter_157 : decode cX12_writeLetter 157 = .ok (.invokevirtual 94, 3) := by decide +kernel
theorem dX12_writeLetter_160 : decode cX12_writeLetter 160 = .ok (.aload_n 0, 1) := by decide +kernel
theorem dX12_writeLetter_161 : decode cX12_writeLetter 161 = .ok (.bipush 35, 2) := by decide +kernel
theorem dX12_writeLetter_163 : decode cX12_writeLetter 163 = .ok (.invokevirtual 94, 3) := by decide +kernel
theorem dX12_writeLetter_166 : decode cX12_writeLetter 166 = .ok (.iconst 1, 1) := by decide +kernel
theorem dX12_writeLetter_167 : decode cX12_writeLetter 167 = .ok (.istore_n 3, 1) := by decide +kernel
theorem dX12_writeLetter_168 : decode cX12_writeLetter 168 = .ok (.iload_n 2, 1) := by decide +kernel
theorem dX12_writeLetter_169 : decode cX12_writeLetter 169 = .ok (.iload_n 3, 1) := by decide +kernel
theorem dX12_writeLetter_170 : decode cX12_writeLetter 170 = .ok (.idiv, 1) := by decide +kernel
theorem dX12_writeLetter_171 : decode cX12_writeLetter 171 = .ok (.bipush 10, 2) := by decide +kernel
theorem dX12_writeLetter_173 : decode cX12_writeLetter 173 = .ok (.if_icmp .lt 11, 3) := by decide +kernel
theorem dX12_writeLetter_176 : decode cX12_writeLetter 176 = .ok (.iload_n 3, 1) := by decide +kernel
theorem dX12_writeLetter_177 : decode cX12_writeLetter 177 = .ok (.bipush 10, 2) := by decide +kernel
theorem dX12_writeLetter_179 : decode cX12_writeLetter 179 = .ok (.imul, 1) := by decide +kernel
theorem dX12_writeLetter_180 : decode cX12_writeLetter 180 = .ok (.istore_n 3, 1) := by decide +kernel
theorem dX12_writeLetter_181 : decode cX12_writeLetter 181 = .ok (.goto (-13), 3) := by decide +kernel
theorem dX12_writeLetter_184 : decode cX12_writeLetter 184 = .ok (.iload_n 3, 1) := by decide +kernel
theorem dX12_writeLetter_185 : decode cX12_writeLetter 185 = .ok (.ifCond .le 24, 3) := by decide +kernel
theorem dX12_writeLetter_188 : decode cX12_writeLetter 188 = .ok (.aload_n 0, 1) := by decide +kernel
theorem dX12_writeLetter_189 : decode cX12_writeLetter 189 = .ok (.bipush 48, 2) := by decide +kernel
theorem dX12_writeLetter_191 : decode cX12_writeLetter 191 = .ok (.iload_n 2, 1) := by decide +kernel
theorem dX12_writeLetter_192 : decode cX12_writeLetter 192 = .ok (.iload_n 3, 1) := by decide +kernel
theorem dX12_writeLetter_193 : decode cX12_writeLetter 193 = .ok (.idiv, 1) := by decide +kernel
theorem dX12_writeLetter_194 : decode cX12_writeLetter 194 = .ok (.bipush 10, 2) := by decide +kernel
theorem dX12_writeLetter_196 : decode cX12_writeLetter 196 = .ok (.irem, 1) := by decide +kernel
theorem dX12_writeLetter_197 : decode cX12_writeLetter 197 = .ok (.iadd, 1) := by decide +kernel
theorem dX12_writeLetter_198 : decode cX12_writeLetter 198 = .ok (.invokevirtual 94, 3) := by decide +kernel
theorem dX12_writeLetter_201 : decode cX12_writeLetter 201 = .ok (.iload_n 3, 1) := by decide +kernel
theorem dX12_writeLetter_202 : decode cX12_writeLetter 202 = .ok (.bipush 10, 2) := by decide +kernel
theorem dX12_writeLetter_204 : decode cX12_writeLetter 204 = .ok (.idiv, 1) := by decide +kernel
theorem dX12_writeLetter_205 : decode cX12_writeLetter 205 = .ok (.istore_n 3, 1) := by decide +kernel
theorem dX12_writeLetter_206 : decode cX12_writeLetter 206 = .ok (.goto (-22), 3) := by decide +kernel
theorem dX12_writeLetter_209 : decode cX12_writeLetter 209 = .ok (.aload_n 0, 1) := by decide +kernel
theorem dX12_writeLetter_210 : decode cX12_writeLetter 210 = .ok (.bipush 59, 2) := by decide +kernel
theorem dX12_writeLetter_212 : decode cX12_writeLetter 212 = .ok (.invokevirtual 94, 3) := by decide +kernel
theorem dX12_writeLetter_215 : decode cX12_writeLetter 215 = .ok (.goto 29, 3) := by decide +kernel
theorem dX12_writeLetter_140 : decode cX12_writeLetter 140 = .ok (.iload_n 2, 1) := by decide +kernel
theorem dX12_writeLetter_141 : decode cX12_writeLetter 141 = .ok (.bipush 38, 2) := by decide +kernel
theorem dX12_writeLetter_143 : decode cX12_writeLetter 143 = .ok (.if_icmp .eq 11, 3) := by decide +kernel
theorem dX12_writeLetter_146 : decode cX12_writeLetter 146 = .ok (.aload_n 0, 1) := by decide +kernel
theorem dX12_writeLetter_147 : decode cX12_writeLetter 147 = .ok (.iload_n 2, 1) := by decide +kernel
theorem dX12_writeLetter_148 : decode cX12_writeLetter 148 = .ok (.invokevirtual 94, 3) := by decide +kernel
theorem dX12_writeLetter_151 : decode cX12_writeLetter 151 = .ok (.goto 93, 3) := by decide +kernel
theorem dX12_writeLetter_36 : decode cX12_writeLetter 36 = .ok (.iload_n 2, 1) := by decide +kernel
theorem dX12_writeLetter_37 : decode cX12_writeLetter 37 = .ok (.sipush 128, 3) := by decide +kernel
theorem dX12_writeLetter_40 : decode cX12_writeLetter 40 = .ok (.if_icmp .ge 11, 3) := by decide +kernel
theorem dX12_writeLetter_51 : decode cX12_writeLetter 51 = .ok (.iload_n 2, 1) := by decide +kernel
theorem dX12_writeLetter_52 : decode cX12_writeLetter 52 = .ok (.sipush 2048, 3) := by decide +kernel
theorem dX12_writeLetter_55 : decode cX12_writeLetter 55 = .ok (.if_icmp .ge 30, 3) := by decide +kernel
theorem dX12_writeLetter_85 : decode cX12_writeLetter 85 = .ok (.aload_n 0, 1) := by decide +kernel
theorem dX12_writeLetter_86 : decode cX12_writeLetter 86 = .ok (.sipush 224, 3) := by decide +kernel
theorem dX12_writeLetter_89 : decode cX12_writeLetter 89 = .ok (.iload_n 2, 1) := by decide +kernel
theorem dX12_writeLetter_90 : decode cX12_writeLetter 90 = .ok (.sipush 4096, 3) := by decide +kernel
theorem dX12_writeLetter_93 : decode cX12_writeLetter 93 = .ok (.idiv, 1) := by decide +kernel
theorem dX12_writeLetter_94 : decode cX12_writeLetter 94 = .ok (.iadd, 1) := by decide +kernel
theorem dX12_writeLetter_95 : decode cX12_writeLetter 95 = .ok (.invokevirtual 94, 3) := by decide +kernel
theorem dX12_writeLetter_98 : decode cX12_writeLetter 98 = .ok (.aload_n 0, 1) := by decide +kernel
theorem dX12_writeLetter_99 : decode cX12_writeLetter 99 = .ok (.sipush 128, 3) := by decide +kernel
theorem dX12_writeLetter_102 : decode cX12_writeLetter 102 = .ok (.iload_n 2, 1) := by decide +kernel
theorem dX12_writeLetter_103 : decode cX12_writeLetter 103 = .ok (.bipush 64, 2) := by decide +kernel
theorem dX12_writeLetter_105 : decode cX12_writeLetter 105 = .ok (.idiv, 1) := by decide +kernel
theorem dX12_writeLetter_106 : decode cX12_writeLetter 106 = .ok (.bipush 64, 2) := by decide +kernel
theorem dX12_writeLetter_108 : decode cX12_writeLetter 108 = .ok (.irem, 1) := by decide +kernel
theorem dX12_writeLetter_109 : decode cX12_writeLetter 109 = .ok (.iadd, 1) := by decide +kernel
theorem dX12_writeLetter_110 : decode cX12_writeLetter 110 = .ok (.invokevirtual 94, 3) := by decide +kernel
theorem dX12_writeLetter_113 : decode cX12_writeLetter 113 = .ok (.aload_n 0, 1) := by decide +kernel
theorem dX12_writeLetter_114 : decode cX12_writeLetter 114 = .ok (.sipush 128, 3) := by decide +kernel
theorem dX12_writeLetter_117 : decode cX12_writeLetter 117 = .ok (.iload_n 2, 1) := by decide +kernel
theorem dX12_writeLetter_118 : decode cX12_writeLetter 118 = .ok (.bipush 64, 2) := by decide +kernel
theorem dX12_writeLetter_120 : decode cX12_writeLetter 120 = .ok (.irem, 1) := by decide +kernel
theorem dX12_writeLetter_121 : decode cX12_writeLetter 121 = .ok (.iadd, 1) := by decide +kernel
theorem dX12_writeLetter_122 : decode cX12_writeLetter 122 = .ok (.invokevirtual 94, 3) := by decide +kernel
theorem dX12_writeLetter_125 : decode cX12_writeLetter 125 = .ok (.goto 119, 3) := by decide +kernel
theorem dX12_writeLetter_58 : decode cX12_writeLetter 58 = .ok (.aload_n 0, 1) := by decide +kernel
theorem dX12_writeLetter_59 : decode cX12_writeLetter 59 = .ok (.sipush 192, 3) := by decide +kernel
theorem dX12_writeLetter_62 : decode cX12_writeLetter 62 = .ok (.iload_n 2, 1) := by decide +kernel
theorem dX12_writeLetter_63 : decode cX12_writeLetter 63 = .ok (.bipush 64, 2) := by decide +kernel
theorem dX12_writeLetter_65 : decode cX12_writeLetter 65 = .ok (.idiv, 1) := by decide +kernel
theorem dX12_writeLetter_66 : decode cX12_writeLetter 66 = .ok (.iadd, 1) := by decide +kernel
theorem dX12_writeLetter_67 : decode cX12_writeLetter 67 = .ok (.invokevirtual 94, 3) := by decide +kernel
theorem dX12_writeLetter_70 : decode cX12_writeLetter 70 = .ok (.aload_n 0, 1) := by decide +kernel
theorem dX12_writeLetter_71 : decode cX12_writeLetter 71 = .ok (.sipush 128, 3) := by decide +kernel
theorem dX12_writeLetter_74 : decode cX12_writeLetter 74 = .ok (.iload_n 2, 1) := by decide +kernel
theorem dX12_writeLetter_75 : decode cX12_writeLetter 75 = .ok (.bipush 64, 2) := by decide +kernel
theorem dX12_writeLetter_77 : decode cX12_writeLetter 77 = .ok (.irem, 1) := by decide +kernel
theorem dX12_writeLetter_78 : decode cX12_writeLetter 78 = .ok (.iadd, 1) := by decide +kernel
theorem dX12_writeLetter_79 : decode cX12_writeLetter 79 = .ok (.invokevirtual 94, 3) := by decide +kernel
theorem dX12_writeLetter_82 : decode cX12_writeLetter 82 = .ok (.goto 162, 3) := by decide +kernel
theorem dX12_writeLetter_43 : decode cX12_writeLetter 43 = .ok (.aload_n 0, 1) := by decide +kernel
theorem dX12_writeLetter_44 : decode cX12_writeLetter 44 = .ok (.iload_n 2, 1) := by decide +kernel
theorem dX12_writeLetter_45 : decode cX12_writeLetter 45 = .ok (.invokevirtual 94, 3) := by decide +kernel
theorem dX12_writeLetter_48 : decode cX12_writeLetter 48 = .ok (.goto 196, 3) := by decide +kernel
theorem dX12_writeLetter_5 : decode cX12_writeLetter 5 = .ok (.iload_n 2, 1) := by decide +kernel
theorem dX12_writeLetter_6 : decode cX12_writeLetter 6 = .ok (.iload_n 1, 1) := by decide +kernel
theorem dX12_writeLetter_7 : decode cX12_writeLetter 7 = .ok (.ifCond .ne 8, 3) := by decide +kernel
theorem dX12_writeLetter_15 : decode cX12_writeLetter 15 = .ok (.sipush 255, 3) := by decide +kernel
theorem dX12_writeLetter_18 : decode cX12_writeLetter 18 = .ok (.if_icmp .le 5, 3) := by decide +kernel
theorem dX12_writeLetter_23 : decode cX12_writeLetter 23 = .ok (.aload_n 0, 1) := by decide +kernel
theorem dX12_writeLetter_24 : decode cX12_writeLetter 24 = .ok (.iload_n 2, 1) := by decide +kernel
theorem dX12_writeLetter_25 : decode cX12_writeLetter 25 = .ok (.invokevirtual 94, 3) := by decide +kernel
theorem dX12_writeLetter_28 : decode cX12_writeLetter 28 = .ok (.goto 216, 3) := by decide +kernel
theorem dX12_writeLetter_21 : decode cX12_writeLetter 21 = .ok (.iconst 0, 1) := by decide +kernel
theorem dX12_writeLetter_22 : decode cX12_writeLetter 22 = .ok (.ireturn, 1) := by decide +kernel
theorem dX12_writeLetter_10 : decode cX12_writeLetter 10 = .ok (.bipush 127, 2) := by decide +kernel
theorem dX12_writeLetter_12 : decode cX12_writeLetter 12 = .ok (.goto 6, 3) := by decide +kernel
theorem dX12_write_0 : decode cX12_write 0 = .ok (.aload_n 0, 1) := by decide +kernel
theorem dX12_write_1 : decode cX12_write 1 = .ok (.iconst 0, 1) := by decide +kernel
theorem dX12_write_2 : decode cX12_write 2 = .ok (.putfield 91, 3) := by decide +kernel
theorem dX12_write_5 : decode cX12_write 5 = .ok (.iconst 0, 1) := by decide +kernel
theorem dX12_write_6 : decode cX12_write 6 = .ok (.istore 4, 2) := by decide +kernel
theorem dX12_write_8 : decode cX12_write 8 = .ok (.iload 4, 2) := by decide +kernel
theorem dX12_write_10 : decode cX12_write 10 = .ok (.iload_n 3, 1) := by decide +kernel
theorem dX12_write_11 : decode cX12_write 11 = .ok (.if_icmp .ge 29, 3) := by decide +kernel
theorem dX12_write_40 : decode cX12_write 40 = .ok (.iconst 1, 1) := by decide +kernel
theorem dX12_write_41 : decode cX12_write 41 = .ok (.ireturn, 1) := by decide +kernel
theorem dX12_write_14 : decode cX12_write 14 = .ok (.aload_n 0, 1) := by decide +kernel
theorem dX12_write_15 : decode cX12_write 15 = .ok (.iload_n 1, 1) := by decide +kernel
theorem dX12_write_16 : decode cX12_write 16 = .ok (.aload_n 2, 1) := by decide +kernel
theorem dX12_write_17 : decode cX12_write 17 = .ok (.iload 4, 2) := by decide +kernel
theorem dX12_write_19 : decode cX12_write 19 = .ok (.iaload, 1) := by decide +kernel
set_option maxRecDepth 20000 in
theorem ggX12_write_X12_writeLetter : GoodIn wsX12_write wsX12_writeLetter := goodIn_r _ [7, 8, 9, 10, 11, 12, 6, 13, 14, 1, 15, 16, 17, 18, 19, 20, 21, 22, 23, 24, 25, 26, 27, 28, 29, 30, 31, 32, 33, 34, 35, 36, 37, 38, 39, 40, 41, 42, 43, 44, 45, 46, 47, 48, 49, 50, 51, 52, 53, 54] rfl (by decide +kernel)
set_option maxRecDepth 20000 in
theorem gX12_write_X12_writeLetter : GoodIn wsX12_write (wsV RX12 98 RX12 yX12_writeLetter wsX12_writeLetter) := goodIn_app (goodIn_r _ [3, 4, 5, 6] rfl (by decide +kernel)) ggX12_write_X12_writeLetter
theorem dX12_write_20 : decode cX12_write 20 = .ok (.invokevirtual 98, 3) := by decide +kernel
theorem dX12_write_23 : decode cX12_write 23 = .ok (.ifCond .ne 11, 3) := by decide +kernel
theorem dX12_write_34 : decode cX12_write 34 = .ok (.iinc 4 1, 3) := by decide +kernel
theorem dX12_write_37 : decode cX12_write 37 = .ok (.goto (-29), 3) := by decide +kernel
theorem dX12_write_26 : decode cX12_write 26 = .ok (.aload_n 0, 1) := by decide +kernel
theorem dX12_write_27 : decode cX12_write 27 = .ok (.iload 4, 2) := by decide +kernel
theorem dX12_write_29 : decode cX12_write 29 = .ok (.putfield 102, 3) := by decide +kernel
theorem dX12_write_32 : decode cX12_write 32 = .ok (.iconst 0, 1) := by decide +kernel
theorem dX12_write_33 : decode cX12_write 33 = .ok (.ireturn, 1) := by decide +kernel
theorem dX12_byteAt_0 : decode cX12_byteAt 0 = .ok (.iload_n 1, 1) := by decide +kernel
theorem dX12_byteAt_1 : decode cX12_byteAt 1 = .ok (.aload_n 0, 1) := by decide +kernel
theorem dX12_byteAt_2 : decode cX12_byteAt 2 = .ok (.getfield 91, 3) := by decide +kernel
theorem dX12_byteAt_5 : decode cX12_byteAt 5 = .ok (.if_icmp .ge 12, 3) := by decide +kernel
theorem dX12_byteAt_17 : decode cX12_byteAt 17 = .ok (.iconst (-1), 1) := by decide +kernel
theorem dX12_byteAt_18 : decode cX12_byteAt 18 = .ok (.ireturn, 1) := by decide +kernel
theorem dX12_byteAt_8 : decode cX12_byteAt 8 = .ok (.aload_n 0, 1) := by decide +kernel
theorem dX12_byteAt_9 : decode cX12_byteAt 9 = .ok (.getfield 58, 3) := by decide +kernel
theorem dX12_byteAt_12 : decode cX12_byteAt 12 = .ok (.iload_n 1, 1) := by decide +kernel
theorem dX12_byteAt_13 : decode cX12_byteAt 13 = .ok (.iaload, 1) := by decide +kernel
theorem dX12_byteAt_14 : decode cX12_byteAt 14 = .ok (.goto 4, 3) := by decide +kernel
theorem dX12_readAt_0 : decode cX12_readAt 0 = .ok (.aload_n 0, 1) := by decide +kernel
theorem dX12_readAt_1 : decode cX12_readAt 1 = .ok (.getfield 58, 3) := by decide +kernel
theorem dX12_readAt_4 : decode cX12_readAt 4 = .ok (.iload_n 2, 1) := by decide +kernel
theorem dX12_readAt_5 : decode cX12_readAt 5 = .ok (.iaload, 1) := by decide +kernel
theorem dX12_readAt_6 : decode cX12_readAt 6 = .ok (.istore_n 3, 1) := by decide +kernel
theorem dX12_readAt_7 : decode cX12_readAt 7 = .ok (.aload_n 0, 1) := by decide +kernel
theorem dX12_readAt_8 : decode cX12_readAt 8 = .ok (.iload_n 3, 1) := by decide +kernel
theorem dX12_readAt_9 : decode cX12_readAt 9 = .ok (.putfield 105, 3) := by decide +kernel
theorem dX12_readAt_12 : decode cX12_readAt 12 = .ok (.iload_n 1, 1) := by decide +kernel
theorem dX12_readAt_13 : decode cX12_readAt 13 = .ok (.iconst 2, 1) := by decide +kernel
theorem dX12_readAt_14 : decode cX12_readAt 14 = .ok (.if_icmp .ge 25, 3) := by decide +kernel
theorem dX12_readAt_39 : decode cX12_readAt 39 = .ok (.iload_n 1, 1) := by decide +kernel
theorem dX12_readAt_40 : decode cX12_readAt 40 = .ok (.iconst 3, 1) := by decide +kernel
theorem dX12_readAt_41 : decode cX12_readAt 41 = .ok (.if_icmp .le 35, 3) := by decide +kernel
theorem dX12_readAt_76 : decode cX12_readAt 76 = .ok (.iload_n 3, 1) := by decide +kernel
theorem dX12_readAt_77 : decode cX12_readAt 77 = .ok (.bipush 127, 2) := by decide +kernel
theorem dX12_readAt_79 : decode cX12_readAt 79 = .ok (.if_icmp .le 10, 3) := by decide +kernel
theorem dX12_readAt_89 : decode cX12_readAt 89 = .ok (.iload_n 3, 1) := by decide +kernel
theorem dX12_readAt_90 : decode cX12_readAt 90 = .ok (.sipush 128, 3) := by decide +kernel
theorem dX12_readAt_93 : decode cX12_readAt 93 = .ok (.if_icmp .ge 16, 3) := by decide +kernel
theorem dX12_readAt_96 : decode cX12_readAt 96 = .ok (.iload_n 1, 1) := by decide +kernel
theorem dX12_readAt_97 : decode cX12_readAt 97 = .ok (.iconst 2, 1) := by decide +kernel
theorem dX12_readAt_98 : decode cX12_readAt 98 = .ok (.if_icmp .eq 9, 3) := by decide +kernel
theorem dX12_readAt_107 : decode cX12_readAt 107 = .ok (.iconst 1, 1) := by decide +kernel
theorem dX12_readAt_108 : decode cX12_readAt 108 = .ok (.ireturn, 1) := by decide +kernel
theorem dX12_readAt_101 : decode cX12_readAt 101 = .ok (.iload_n 3, 1) := by decide +kernel
theorem dX12_readAt_102 : decode cX12_readAt 102 = .ok (.bipush 38, 2) := by decide +kernel
theorem dX12_readAt_104 : decode cX12_readAt 104 = .ok (.if_icmp .eq 5, 3) := by decide +kernel
theorem dX12_readAt_109 : decode cX12_readAt 109 = .ok (.iload_n 1, 1) := by decide +kernel
theorem dX12_readAt_110 : decode cX12_readAt 110 = .ok (.iconst 2, 1) := by decide +kernel
theorem dX12_readAt_111 : decode cX12_readAt 111 = .ok (.if_icmp .ne 153, 3) := by decide +kernel
theorem dX12_readAt_264 : decode cX12_readAt 264 = .ok (.aload_n 0, 1) := by decide +kernel
theorem dX12_readAt_265 : decode cX12_readAt 265 = .ok (.iload_n 2, 1) := by decide +kernel
theorem dX12_readAt_266 : decode cX12_readAt 266 = .ok (.iconst 1, 1) := by decide +kernel
theorem dX12_readAt_267 : decode cX12_readAt 267 = .ok (.iadd, 1) := by decide +kernel
set_option maxRecDepth 20000 in
theorem ggX12_readAt_X12_byteAt : GoodIn wsX12_readAt wsX12_byteAt := goodIn_r _ [8, 9, 1, 19, 20, 21, 22, 23, 24, 25, 26, 27, 28, 29, 30, 31, 32, 33, 34, 35, 36, 37, 38, 39, 40, 41, 42, 43, 44, 45, 46, 47, 48, 49, 50, 51, 52, 53, 54, 55, 56, 57, 58] rfl (by decide +kernel)
set_option maxRecDepth 20000 in
theorem gX12_readAt_X12_byteAt : GoodIn wsX12_readAt (wsV RX12 108 RX12 yX12_byteAt wsX12_byteAt) := goodIn_app (goodIn_r _ [4, 5, 6, 7] rfl (by decide +kernel)) ggX12_readAt_X12_byteAt
theorem dX12_readAt_268 : decode cX12_readAt 268 = .ok (.invokevirtual 108, 3) := by decide +kernel
theorem dX12_readAt_271 : decode cX12_readAt 271 = .ok (.bipush 35, 2) := by decide +kernel
theorem dX12_readAt_273 : decode cX12_readAt 273 = .ok (.if_icmp .eq 5, 3) := by decide +kernel
theorem dX12_readAt_278 : decode cX12_readAt 278 = .ok (.iload_n 2, 1) := by decide +kernel
theorem dX12_readAt_279 : decode cX12_readAt 279 = .ok (.iconst 2, 1) := by decide +kernel
theorem dX12_readAt_280 : decode cX12_readAt 280 = .ok (.iadd, 1) := by decide +kernel
theorem dX12_readAt_281 : decode cX12_readAt 281 = .ok (.istore 4, 2) := by decide +kernel
theorem dX12_readAt_283 : decode cX12_readAt 283 = .ok (.iconst 0, 1) := by decide +kernel
theorem dX12_readAt_284 : decode cX12_readAt 284 = .ok (.istore 5, 2) := by decide +kernel
theorem dX12_readAt_286 : decode cX12_readAt 286 = .ok (.aload_n 0, 1) := by decide +kernel
theorem dX12_readAt_287 : decode cX12_readAt 287 = .ok (.iload 4, 2) := by decide +kernel
theorem dX12_readAt_289 : decode cX12_readAt 289 = .ok (.invokevirtual 108, 3) := by decide +kernel
theorem dX12_readAt_292 : decode cX12_readAt 292 = .ok (.bipush 48, 2) := by decide +kernel
theorem dX12_readAt_294 : decode cX12_readAt 294 = .ok (.if_icmp .lt 62, 3) := by decide +kernel
theorem dX12_readAt_356 : decode cX12_readAt 356 = .ok (.aload_n 0, 1) := by decide +kernel
theorem dX12_readAt_357 : decode cX12_readAt 357 = .ok (.iload 5, 2) := by decide +kernel
theorem dX12_readAt_359 : decode cX12_readAt 359 = .ok (.putfield 105, 3) := by decide +kernel
theorem dX12_readAt_362 : decode cX12_readAt 362 = .ok (.iload 4, 2) := by decide +kernel
theorem dX12_readAt_364 : decode cX12_readAt 364 = .ok (.iload_n 2, 1) := by decide +kernel
theorem dX12_readAt_365 : decode cX12_readAt 365 = .ok (.iconst 2, 1) := by decide +kernel
theorem dX12_readAt_366 : decode cX12_readAt 366 = .ok (.iadd, 1) := by decide +kernel
theorem dX12_readAt_367 : decode cX12_readAt 367 = .ok (.if_icmp .le 40, 3) := by decide +kernel
theorem dX12_readAt_407 : decode cX12_readAt 407 = .ok (.iconst 0, 1) := by decide +kernel
theorem dX12_readAt_408 : decode cX12_readAt 408 = .ok (.istore 6, 2) := by decide +kernel
theorem dX12_readAt_410 : decode cX12_readAt 410 = .ok (.iload 6, 2) := by decide +kernel
theorem dX12_readAt_412 : decode cX12_readAt 412 = .ok (.ifCond .eq 12, 3) := by decide +kernel
theorem dX12_readAt_424 : decode cX12_readAt 424 = .ok (.iconst 0, 1) := by decide +kernel
theorem dX12_readAt_425 : decode cX12_readAt 425 = .ok (.ireturn, 1) := by decide +kernel
theorem dX12_readAt_370 : decode cX12_readAt 370 = .ok (.aload_n 0, 1) := by decide +kernel
theorem dX12_readAt_371 : decode cX12_readAt 371 = .ok (.iload 4, 2) := by decide +kernel
theorem dX12_readAt_373 : decode cX12_readAt 373 = .ok (.invokevirtual 108, 3) := by decide +kernel
theorem dX12_readAt_376 : decode cX12_readAt 376 = .ok (.bipush 59, 2) := by decide +kernel
theorem dX12_readAt_378 : decode cX12_readAt 378 = .ok (.if_icmp .ne 29, 3) := by decide +kernel
theorem dX12_readAt_381 : decode cX12_readAt 381 = .ok (.iload 5, 2) := by decide +kernel
set_option maxRecDepth 20000 in
theorem ggX12_readAt_X12_isLetter : GoodIn wsX12_readAt wsX12_isLetter := goodIn_r _ [15, 16, 17, 18] rfl (by decide +kernel)
set_option maxRecDepth 20000 in
theorem gX12_readAt_X12_isLetter : GoodIn wsX12_readAt (va_wsS RX12 116 yX12_isLetter wsX12_isLetter) := goodIn_app (goodIn_r _ [13, 14, 7] rfl (by decide +kernel)) ggX12_readAt_X12_isLetter
theorem dX12_readAt_383 : decode cX12_readAt 383 = .ok (.invokestatic 116, 3) := by decide +kernel
theorem dX12_readAt_386 : decode cX12_readAt 386 = .ok (.ifCond .eq 21, 3) := by decide +kernel
theorem dX12_readAt_389 : decode cX12_readAt 389 = .ok (.iload 5, 2) := by decide +kernel
theorem dX12_readAt_391 : decode cX12_readAt 391 = .ok (.bipush 38, 2) := by decide +kernel
theorem dX12_readAt_393 : decode cX12_readAt 393 = .ok (.if_icmp .eq 10, 3) := by decide +kernel
theorem dX12_readAt_403 : decode cX12_readAt 403 = .ok (.iconst 1, 1) := by decide +kernel
theorem dX12_readAt_404 : decode cX12_readAt 404 = .ok (.goto 4, 3) := by decide +kernel
theorem dX12_readAt_415 : decode cX12_readAt 415 = .ok (.iload 4, 2) := by decide +kernel
theorem dX12_readAt_417 : decode cX12_readAt 417 = .ok (.iload_n 2, 1) := by decide +kernel
theorem dX12_readAt_418 : decode cX12_readAt 418 = .ok (.isub, 1) := by decide +kernel
theorem dX12_readAt_419 : decode cX12_readAt 419 = .ok (.iconst 1, 1) := by decide +kernel
theorem dX12_readAt_420 : decode cX12_readAt 420 = .ok (.iadd, 1) := by decide +kernel
theorem dX12_readAt_421 : decode cX12_readAt 421 = .ok (.goto 4, 3) := by decide +kernel
theorem dX12_readAt_396 : decode cX12_readAt 396 = .ok (.iload 5, 2) := by decide +kernel
theorem dX12_readAt_398 : decode cX12_readAt 398 = .ok (.bipush 127, 2) := by decide +kernel
theorem dX12_readAt_400 : decode cX12_readAt 400 = .ok (.if_icmp .le 7, 3) := by decide +kernel
theorem dX12_readAt_297 : decode cX12_readAt 297 = .ok (.aload_n 0, 1) := by decide +kernel
theorem dX12_readAt_298 : decode cX12_readAt 298 = .ok (.iload 4, 2) := by decide +kernel
theorem dX12_readAt_300 : decode cX12_readAt 300 = .ok (.invokevirtual 108, 3) := by decide +kernel
theorem dX12_readAt_303 : decode cX12_readAt 303 = .ok (.bipush 57, 2) := by decide +kernel
theorem dX12_readAt_305 : decode cX12_readAt 305 = .ok (.if_icmp .gt 51, 3) := by decide +kernel
theorem dX12_readAt_308 : decode cX12_readAt 308 = .ok (.iload 4, 2) := by decide +kernel
theorem dX12_readAt_310 : decode cX12_readAt 310 = .ok (.iload_n 2, 1) := by decide +kernel
theorem dX12_readAt_311 : decode cX12_readAt 311 = .ok (.isub, 1) := by decide +kernel
theorem dX12_readAt_312 : decode cX12_readAt 312 = .ok (.bipush 8, 2) := by decide +kernel
theorem dX12_readAt_314 : decode cX12_readAt 314 = .ok (.if_icmp .ge 42, 3) := by decide +kernel
theorem dX12_readAt_317 : decode cX12_readAt 317 = .ok (.iload 5, 2) := by decide +kernel
theorem dX12_readAt_319 : decode cX12_readAt 319 = .ok (.ifCond .ne 13, 3) := by decide +kernel
theorem dX12_readAt_332 : decode cX12_readAt 332 = .ok (.bipush 10, 2) := by decide +kernel
theorem dX12_readAt_334 : decode cX12_readAt 334 = .ok (.iload 5, 2) := by decide +kernel
theorem dX12_readAt_336 : decode cX12_readAt 336 = .ok (.imul, 1) := by decide +kernel
theorem dX12_readAt_337 : decode cX12_readAt 337 = .ok (.aload_n 0, 1) := by decide +kernel
theorem dX12_readAt_338 : decode cX12_readAt 338 = .ok (.getfield 58, 3) := by decide +kernel
theorem dX12_readAt_341 : decode cX12_readAt 341 = .ok (.iload 4, 2) := by decide +kernel
theorem dX12_readAt_343 : decode cX12_readAt 343 = .ok (.iaload, 1) := by decide +kernel
theorem dX12_readAt_344 : decode cX12_readAt 344 = .ok (.iadd, 1) := by decide +kernel
theorem dX12_readAt_345 : decode cX12_readAt 345 = .ok (.bipush 48, 2) := by decide +kernel
theorem dX12_readAt_347 : decode cX12_readAt 347 = .ok (.isub, 1) := by decide +kernel
theorem dX12_readAt_348 : decode cX12_readAt 348 = .ok (.istore 5, 2) := by decide +kernel
theorem dX12_readAt_350 : decode cX12_readAt 350 = .ok (.iinc 4 1, 3) := by decide +kernel
theorem dX12_readAt_353 : decode cX12_readAt 353 = .ok (.goto (-67), 3) := by decide +kernel
theorem dX12_readAt_322 : decode cX12_readAt 322 = .ok (.iload 4, 2) := by decide +kernel
theorem dX12_readAt_324 : decode cX12_readAt 324 = .ok (.iload_n 2, 1) := by decide +kernel
theorem dX12_readAt_325 : decode cX12_readAt 325 = .ok (.iconst 2, 1) := by decide +kernel
theorem dX12_readAt_326 : decode cX12_readAt 326 = .ok (.iadd, 1) := by decide +kernel
theorem dX12_readAt_327 : decode cX12_readAt 327 = .ok (.if_icmp .le 5, 3) := by decide +kernel
theorem dX12_readAt_330 : decode cX12_readAt 330 = .ok (.iconst 0, 1) := by decide +kernel
theorem dX12_readAt_331 : decode cX12_readAt 331 = .ok (.ireturn, 1) := by decide +kernel
theorem dX12_readAt_276 : decode cX12_readAt 276 = .ok (.iconst 0, 1) := by decide +kernel
theorem dX12_readAt_277 : decode cX12_readAt 277 = .ok (.ireturn, 1) := by decide +kernel
theorem dX12_readAt_82 : decode cX12_readAt 82 = .ok (.iload_n 1, 1) := by decide +kernel
theorem dX12_readAt_83 : decode cX12_readAt 83 = .ok (.iconst 3, 1) := by decide +kernel
theorem dX12_readAt_84 : decode cX12_readAt 84 = .ok (.if_icmp .ne 5, 3) := by decide +kernel
theorem dX12_readAt_114 : decode cX12_readAt 114 = .ok (.aload_n 0, 1) := by decide +kernel
theorem dX12_readAt_115 : decode cX12_readAt 115 = .ok (.iload_n 2, 1) := by decide +kernel
theorem dX12_readAt_116 : decode cX12_readAt 116 = .ok (.iconst 1, 1) := by decide +kernel
theorem dX12_readAt_117 : decode cX12_readAt 117 = .ok (.iadd, 1) := by decide +kernel
theorem dX12_readAt_118 : decode cX12_readAt 118 = .ok (.invokevirtual 108, 3) := by decide +kernel
theorem dX12_readAt_121 : decode cX12_readAt 121 = .ok (.istore 4, 2) := by decide +kernel
theorem dX12_readAt_123 : decode cX12_readAt 123 = .ok (.iload_n 3, 1) := by decide +kernel
theorem dX12_readAt_124 : decode cX12_readAt 124 = .ok (.sipush 192, 3) := by decide +kernel
theorem dX12_readAt_127 : decode cX12_readAt 127 = .ok (.if_icmp .lt 18, 3) := by decide +kernel
theorem dX12_readAt_145 : decode cX12_readAt 145 = .ok (.iconst 0, 1) := by decide +kernel
theorem dX12_readAt_146 : decode cX12_readAt 146 = .ok (.ireturn, 1) := by decide +kernel
theorem dX12_readAt_130 : decode cX12_readAt 130 = .ok (.iload_n 3, 1) := by decide +kernel
theorem dX12_readAt_131 : decode cX12_readAt 131 = .ok (.sipush 239, 3) := by decide +kernel
theorem dX12_readAt_134 : decode cX12_readAt 134 = .ok (.if_icmp .gt 11, 3) := by decide +kernel
theorem dX12_readAt_137 : decode cX12_readAt 137 = .ok (.iload 4, 2) := by decide +kernel
set_option maxRecDepth 20000 in
theorem ggX12_readAt_X12_goesOn : GoodIn wsX12_readAt wsX12_goesOn := goodIn_r _ [12] rfl (by decide +kernel)
set_option maxRecDepth 20000 in
theorem gX12_readAt_X12_goesOn : GoodIn wsX12_readAt (va_wsS RX12 112 yX12_goesOn wsX12_goesOn) := goodIn_app (goodIn_r _ [10, 11, 7] rfl (by decide +kernel)) ggX12_readAt_X12_goesOn
theorem dX12_readAt_139 : decode cX12_readAt 139 = .ok (.invokestatic 112, 3) := by decide +kernel
theorem dX12_readAt_142 : decode cX12_readAt 142 = .ok (.ifCond .ne 5, 3) := by decide +kernel
theorem dX12_readAt_147 : decode cX12_readAt 147 = .ok (.iload_n 3, 1) := by decide +kernel
theorem dX12_readAt_148 : decode cX12_readAt 148 = .ok (.sipush 224, 3) := by decide +kernel
theorem dX12_readAt_151 : decode cX12_readAt 151 = .ok (.if_icmp .ge 38, 3) := by decide +kernel
theorem dX12_readAt_189 : decode cX12_readAt 189 = .ok (.aload_n 0, 1) := by decide +kernel
theorem dX12_readAt_190 : decode cX12_readAt 190 = .ok (.iload_n 2, 1) := by decide +kernel
theorem dX12_readAt_191 : decode cX12_readAt 191 = .ok (.iconst 2, 1) := by decide +kernel
theorem dX12_readAt_192 : decode cX12_readAt 192 = .ok (.iadd, 1) := by decide +kernel
theorem dX12_readAt_193 : decode cX12_readAt 193 = .ok (.invokevirtual 108, 3) := by decide +kernel
theorem dX12_readAt_196 : decode cX12_readAt 196 = .ok (.istore 5, 2) := by decide +kernel
theorem dX12_readAt_198 : decode cX12_readAt 198 = .ok (.iload 5, 2) := by decide +kernel
theorem dX12_readAt_200 : decode cX12_readAt 200 = .ok (.invokestatic 112, 3) := by decide +kernel
theorem dX12_readAt_203 : decode cX12_readAt 203 = .ok (.ifCond .ne 5, 3) := by decide +kernel
theorem dX12_readAt_208 : decode cX12_readAt 208 = .ok (.aload_n 0, 1) := by decide +kernel
theorem dX12_readAt_209 : decode cX12_readAt 209 = .ok (.iload_n 3, 1) := by decide +kernel
theorem dX12_readAt_210 : decode cX12_readAt 210 = .ok (.sipush 224, 3) := by decide +kernel
theorem dX12_readAt_213 : decode cX12_readAt 213 = .ok (.isub, 1) := by decide +kernel
theorem dX12_readAt_214 : decode cX12_readAt 214 = .ok (.sipush 4096, 3) := by decide +kernel
theorem dX12_readAt_217 : decode cX12_readAt 217 = .ok (.imul, 1) := by decide +kernel
theorem dX12_readAt_218 : decode cX12_readAt 218 = .ok (.iload 4, 2) := by decide +kernel
theorem dX12_readAt_220 : decode cX12_readAt 220 = .ok (.sipush 128, 3) := by decide +kernel
theorem dX12_readAt_223 : decode cX12_readAt 223 = .ok (.isub, 1) := by decide +kernel
theorem dX12_readAt_224 : decode cX12_readAt 224 = .ok (.bipush 64, 2) := by decide +kernel
theorem dX12_readAt_226 : decode cX12_readAt 226 = .ok (.imul, 1) := by decide +kernel
theorem dX12_readAt_227 : decode cX12_readAt 227 = .ok (.iadd, 1) := by decide +kernel
theorem dX12_readAt_228 : decode cX12_readAt 228 = .ok (.iload 5, 2) := by decide +kernel
theorem dX12_readAt_230 : decode cX12_readAt 230 = .ok (.iadd, 1) := by decide +kernel
theorem dX12_readAt_231 : decode cX12_readAt 231 = .ok (.sipush 128, 3) := by decide +kernel
theorem dX12_readAt_234 : decode cX12_readAt 234 = .ok (.isub, 1) := by decide +kernel
theorem dX12_readAt_235 : decode cX12_readAt 235 = .ok (.putfield 105, 3) := by decide +kernel
theorem dX12_readAt_238 : decode cX12_readAt 238 = .ok (.aload_n 0, 1) := by decide +kernel
theorem dX12_readAt_239 : decode cX12_readAt 239 = .ok (.getfield 105, 3) := by decide +kernel
theorem dX12_readAt_242 : decode cX12_readAt 242 = .ok (.sipush 2048, 3) := by decide +kernel
theorem dX12_readAt_245 : decode cX12_readAt 245 = .ok (.if_icmp .lt 13, 3) := by decide +kernel
theorem dX12_readAt_258 : decode cX12_readAt 258 = .ok (.iconst 0, 1) := by decide +kernel
theorem dX12_readAt_259 : decode cX12_readAt 259 = .ok (.goto 4, 3) := by decide +kernel
theorem dX12_readAt_263 : decode cX12_readAt 263 = .ok (.ireturn, 1) := by decide +kernel
theorem dX12_readAt_248 : decode cX12_readAt 248 = .ok (.aload_n 0, 1) := by decide +kernel
theorem dX12_readAt_249 : decode cX12_readAt 249 = .ok (.getfield 105, 3) := by decide +kernel
theorem dX12_readAt_252 : decode cX12_readAt 252 = .ok (.invokestatic 116, 3) := by decide +kernel
theorem dX12_readAt_255 : decode cX12_readAt 255 = .ok (.ifCond .ne 7, 3) := by decide +kernel
theorem dX12_readAt_262 : decode cX12_readAt 262 = .ok (.iconst 3, 1) := by decide +kernel
theorem dX12_readAt_206 : decode cX12_readAt 206 = .ok (.iconst 0, 1) := by decide +kernel
theorem dX12_readAt_207 : decode cX12_readAt 207 = .ok (.ireturn, 1) := by decide +kernel
theorem dX12_readAt_154 : decode cX12_readAt 154 = .ok (.aload_n 0, 1) := by decide +kernel
theorem dX12_readAt_155 : decode cX12_readAt 155 = .ok (.iload_n 3, 1) := by decide +kernel
theorem dX12_readAt_156 : decode cX12_readAt 156 = .ok (.sipush 192, 3) := by decide +kernel
theorem dX12_readAt_159 : decode cX12_readAt 159 = .ok (.isub, 1) := by decide +kernel
theorem dX12_readAt_160 : decode cX12_readAt 160 = .ok (.bipush 64, 2) := by decide +kernel
theorem dX12_readAt_162 : decode cX12_readAt 162 = .ok (.imul, 1) := by decide +kernel
theorem dX12_readAt_163 : decode cX12_readAt 163 = .ok (.iload 4, 2) := by decide +kernel
theorem dX12_readAt_165 : decode cX12_readAt 165 = .ok (.iadd, 1) := by decide +kernel
theorem dX12_readAt_166 : decode cX12_readAt 166 = .ok (.sipush 128, 3) := by decide +kernel
theorem dX12_readAt_169 : decode cX12_readAt 169 = .ok (.isub, 1) := by decide +kernel
theorem dX12_readAt_170 : decode cX12_readAt 170 = .ok (.putfield 105, 3) := by decide +kernel
theorem dX12_readAt_173 : decode cX12_readAt 173 = .ok (.aload_n 0, 1) := by decide +kernel
theorem dX12_readAt_174 : decode cX12_readAt 174 = .ok (.getfield 105, 3) := by decide +kernel
theorem dX12_readAt_177 : decode cX12_readAt 177 = .ok (.sipush 128, 3) := by decide +kernel
theorem dX12_readAt_180 : decode cX12_readAt 180 = .ok (.if_icmp .ge 7, 3) := by decide +kernel
theorem dX12_readAt_187 : decode cX12_readAt 187 = .ok (.iconst 2, 1) := by decide +kernel
theorem dX12_readAt_188 : decode cX12_readAt 188 = .ok (.ireturn, 1) := by decide +kernel
theorem dX12_readAt_183 : decode cX12_readAt 183 = .ok (.iconst 0, 1) := by decide +kernel
theorem dX12_readAt_184 : decode cX12_readAt 184 = .ok (.goto 4, 3) := by decide +kernel
theorem dX12_readAt_87 : decode cX12_readAt 87 = .ok (.iconst 0, 1) := by decide +kernel
theorem dX12_readAt_88 : decode cX12_readAt 88 = .ok (.ireturn, 1) := by decide +kernel
theorem dX12_readAt_44 : decode cX12_readAt 44 = .ok (.aload_n 0, 1) := by decide +kernel
theorem dX12_readAt_45 : decode cX12_readAt 45 = .ok (.aload_n 0, 1) := by decide +kernel
theorem dX12_readAt_46 : decode cX12_readAt 46 = .ok (.getfield 19, 3) := by decide +kernel
theorem dX12_readAt_49 : decode cX12_readAt 49 = .ok (.sipush 256, 3) := by decide +kernel
theorem dX12_readAt_52 : decode cX12_readAt 52 = .ok (.iload_n 1, 1) := by decide +kernel
theorem dX12_readAt_53 : decode cX12_readAt 53 = .ok (.iconst 4, 1) := by decide +kernel
theorem dX12_readAt_54 : decode cX12_readAt 54 = .ok (.isub, 1) := by decide +kernel
theorem dX12_readAt_55 : decode cX12_readAt 55 = .ok (.imul, 1) := by decide +kernel
theorem dX12_readAt_56 : decode cX12_readAt 56 = .ok (.iload_n 3, 1) := by decide +kernel
theorem dX12_readAt_57 : decode cX12_readAt 57 = .ok (.iadd, 1) := by decide +kernel
theorem dX12_readAt_58 : decode cX12_readAt 58 = .ok (.iaload, 1) := by decide +kernel
theorem dX12_readAt_59 : decode cX12_readAt 59 = .ok (.putfield 105, 3) := by decide +kernel
theorem dX12_readAt_62 : decode cX12_readAt 62 = .ok (.aload_n 0, 1) := by decide +kernel
theorem dX12_readAt_63 : decode cX12_readAt 63 = .ok (.getfield 105, 3) := by decide +kernel
theorem dX12_readAt_66 : decode cX12_readAt 66 = .ok (.iconst (-1), 1) := by decide +kernel
theorem dX12_readAt_67 : decode cX12_readAt 67 = .ok (.if_icmp .ne 7, 3) := by decide +kernel
theorem dX12_readAt_74 : decode cX12_readAt 74 = .ok (.iconst 1, 1) := by decide +kernel
theorem dX12_readAt_75 : decode cX12_readAt 75 = .ok (.ireturn, 1) := by decide +kernel
theorem dX12_readAt_70 : decode cX12_readAt 70 = .ok (.iconst 0, 1) := by decide +kernel
theorem dX12_readAt_71 : decode cX12_readAt 71 = .ok (.goto 4, 3) := by decide +kernel
theorem dX12_readAt_17 : decode cX12_readAt 17 = .ok (.iload_n 3, 1) := by decide +kernel
theorem dX12_readAt_18 : decode cX12_readAt 18 = .ok (.iload_n 1, 1) := by decide +kernel
theorem dX12_readAt_19 : decode cX12_readAt 19 = .ok (.ifCond .ne 8, 3) := by decide +kernel
theorem dX12_readAt_27 : decode cX12_readAt 27 = .ok (.sipush 255, 3) := by decide +kernel
theorem dX12_readAt_30 : decode cX12_readAt 30 = .ok (.if_icmp .le 7, 3) := by decide +kernel
theorem dX12_readAt_37 : decode cX12_readAt 37 = .ok (.iconst 1, 1) := by decide +kernel
theorem dX12_readAt_38 : decode cX12_readAt 38 = .ok (.ireturn, 1) := by decide +kernel
theorem dX12_readAt_22 : decode cX12_readAt 22 = .ok (.bipush 127, 2) := by decide +kernel
theorem dX12_readAt_24 : decode cX12_readAt 24 = .ok (.goto 6, 3) := by decide +kernel
theorem dX12_readAt_33 : decode cX12_readAt 33 = .ok (.iconst 0, 1) := by decide +kernel
theorem dX12_readAt_34 : decode cX12_readAt 34 = .ok (.goto 4, 3) := by decide +kernel
theorem dX12_read_0 : decode cX12_read 0 = .ok (.aload_n 0, 1) := by decide +kernel
theorem dX12_read_1 : decode cX12_read 1 = .ok (.iconst 0, 1) := by decide +kernel
theorem dX12_read_2 : decode cX12_read 2 = .ok (.putfield 119, 3) := by decide +kernel
theorem dX12_read_5 : decode cX12_read 5 = .ok (.iconst 0, 1) := by decide +kernel
theorem dX12_read_6 : decode cX12_read 6 = .ok (.istore_n 3, 1) := by decide +kernel
theorem dX12_read_7 : decode cX12_read 7 = .ok (.iload_n 3, 1) := by decide +kernel
theorem dX12_read_8 : decode cX12_read 8 = .ok (.aload_n 0, 1) := by decide +kernel
theorem dX12_read_9 : decode cX12_read 9 = .ok (.getfield 91, 3) := by decide +kernel
theorem dX12_read_12 : decode cX12_read 12 = .ok (.if_icmp .ge 77, 3) := by decide +kernel
theorem dX12_read_89 : decode cX12_read 89 = .ok (.iconst 1, 1) := by decide +kernel
theorem dX12_read_90 : decode cX12_read 90 = .ok (.ireturn, 1) := by decide +kernel
theorem dX12_read_15 : decode cX12_read 15 = .ok (.aload_n 0, 1) := by decide +kernel
theorem dX12_read_16 : decode cX12_read 16 = .ok (.iload_n 1, 1) := by decide +kernel
theorem dX12_read_17 : decode cX12_read 17 = .ok (.iload_n 3, 1) := by decide +kernel
set_option maxRecDepth 20000 in
theorem ggX12_read_X12_readAt : GoodIn wsX12_read wsX12_readAt := goodIn_r _ [11, 12, 6, 13, 14, 15, 16, 10, 17, 2, 18, 19, 20, 21, 22, 23, 24, 25, 26, 27, 28, 29, 30, 31, 32, 33, 34, 35, 36, 37, 38, 39, 40, 41, 42, 43, 44, 45, 46, 47, 48, 49, 50, 51, 52, 53, 54, 55, 56, 57, 58, 59, 60, 61, 62, 63, 64, 65, 66] rfl (by decide +kernel)
set_option maxRecDepth 20000 in
theorem gX12_read_X12_readAt : GoodIn wsX12_read (wsV RX12 122 RX12 yX12_readAt wsX12_readAt) := goodIn_app (goodIn_r _ [7, 8, 9, 10] rfl (by decide +kernel)) ggX12_read_X12_readAt
theorem dX12_read_18 : decode cX12_read 18 = .ok (.invokevirtual 122, 3) := by decide +kernel
theorem dX12_read_21 : decode cX12_read 21 = .ok (.istore 4, 2) := by decide +kernel
theorem dX12_read_23 : decode cX12_read 23 = .ok (.iload 4, 2) := by decide +kernel
theorem dX12_read_25 : decode cX12_read 25 = .ok (.ifCond .ne 14, 3) := by decide +kernel
theorem dX12_read_39 : decode cX12_read 39 = .ok (.aload_n 0, 1) := by decide +kernel
theorem dX12_read_40 : decode cX12_read 40 = .ok (.getfield 61, 3) := by decide +kernel
theorem dX12_read_43 : decode cX12_read 43 = .ok (.aload_n 0, 1) := by decide +kernel
theorem dX12_read_44 : decode cX12_read 44 = .ok (.getfield 119, 3) := by decide +kernel
theorem dX12_read_47 : decode cX12_read 47 = .ok (.iload 4, 2) := by decide +kernel
theorem dX12_read_49 : decode cX12_read 49 = .ok (.ifCond .ne 8, 3) := by decide +kernel
theorem dX12_read_57 : decode cX12_read 57 = .ok (.aload_n 0, 1) := by decide +kernel
theorem dX12_read_58 : decode cX12_read 58 = .ok (.getfield 105, 3) := by decide +kernel
theorem dX12_read_61 : decode cX12_read 61 = .ok (.iastore, 1) := by decide +kernel
theorem dX12_read_62 : decode cX12_read 62 = .ok (.aload_n 0, 1) := by decide +kernel
theorem dX12_read_63 : decode cX12_read 63 = .ok (.dup, 1) := by decide +kernel
theorem dX12_read_64 : decode cX12_read 64 = .ok (.getfield 119, 3) := by decide +kernel
theorem dX12_read_67 : decode cX12_read 67 = .ok (.iconst 1, 1) := by decide +kernel
theorem dX12_read_68 : decode cX12_read 68 = .ok (.iadd, 1) := by decide +kernel
theorem dX12_read_69 : decode cX12_read 69 = .ok (.putfield 119, 3) := by decide +kernel
theorem dX12_read_72 : decode cX12_read 72 = .ok (.iload_n 3, 1) := by decide +kernel
theorem dX12_read_73 : decode cX12_read 73 = .ok (.iload 4, 2) := by decide +kernel
theorem dX12_read_75 : decode cX12_read 75 = .ok (.ifCond .ne 7, 3) := by decide +kernel
theorem dX12_read_82 : decode cX12_read 82 = .ok (.iload 4, 2) := by decide +kernel
theorem dX12_read_84 : decode cX12_read 84 = .ok (.iadd, 1) := by decide +kernel
theorem dX12_read_85 : decode cX12_read 85 = .ok (.istore_n 3, 1) := by decide +kernel
theorem dX12_read_86 : decode cX12_read 86 = .ok (.goto (-79), 3) := by decide +kernel
theorem dX12_read_28 : decode cX12_read 28 = .ok (.iload_n 2, 1) := by decide +kernel
theorem dX12_read_29 : decode cX12_read 29 = .ok (.ifCond .ne 10, 3) := by decide +kernel
theorem dX12_read_52 : decode cX12_read 52 = .ok (.ldc 126, 2) := by decide +kernel
theorem dX12_read_54 : decode cX12_read 54 = .ok (.goto 7, 3) := by decide +kernel
theorem dX12_read_78 : decode cX12_read 78 = .ok (.iconst 1, 1) := by decide +kernel
theorem dX12_read_79 : decode cX12_read 79 = .ok (.goto 5, 3) := by decide +kernel
theorem dX12_read_32 : decode cX12_read 32 = .ok (.aload_n 0, 1) := by decide +kernel
theorem dX12_read_33 : decode cX12_read 33 = .ok (.iload_n 3, 1) := by decide +kernel
theorem dX12_read_34 : decode cX12_read 34 = .ok (.putfield 102, 3) := by decide +kernel
theorem dX12_read_37 : decode cX12_read 37 = .ok (.iconst 0, 1) := by decide +kernel
theorem dX12_read_38 : decode cX12_read 38 = .ok (.ireturn, 1) := by decide +kernel
theorem dX12_does_0 : decode cX12_does 0 = .ok (.aload_n 0, 1) := by decide +kernel
theorem dX12_does_1 : decode cX12_does 1 = .ok (.iconst (-1), 1) := by decide +kernel
theorem dX12_does_2 : decode cX12_does 2 = .ok (.putfield 102, 3) := by decide +kernel
theorem dX12_does_5 : decode cX12_does 5 = .ok (.aload_n 0, 1) := by decide +kernel
theorem dX12_does_6 : decode cX12_does 6 = .ok (.iload_n 1, 1) := by decide +kernel
theorem dX12_does_7 : decode cX12_does 7 = .ok (.aload_n 3, 1) := by decide +kernel
theorem dX12_does_8 : decode cX12_does 8 = .ok (.iload 4, 2) := by decide +kernel
set_option maxRecDepth 20000 in
theorem ggX12_does_X12_write : GoodIn wsX12_does wsX12_write := goodIn_r _ [8, 2, 1, 9, 10, 11, 7, 12, 13, 14, 15, 16, 17, 18, 19, 44, 45, 46, 47, 48, 49, 50, 51, 52, 53, 54, 55, 56, 57, 58, 59, 60, 61, 62, 63, 64, 65, 66, 67, 68, 69, 70, 71, 72, 73, 74, 75, 76, 77, 78, 79, 80, 81, 82, 83] rfl (by decide +kernel)
set_option maxRecDepth 20000 in
theorem gX12_does_X12_write : GoodIn wsX12_does (wsV RX12 127 RX12 yX12_write wsX12_write) := goodIn_app (goodIn_r _ [4, 5, 6, 7] rfl (by decide +kernel)) ggX12_does_X12_write
theorem dX12_does_10 : decode cX12_does 10 = .ok (.invokevirtual 127, 3) := by decide +kernel
theorem dX12_does_13 : decode cX12_does 13 = .ok (.ifCond .ne 5, 3) := by decide +kernel
theorem dX12_does_18 : decode cX12_does 18 = .ok (.aload_n 0, 1) := by decide +kernel
theorem dX12_does_19 : decode cX12_does 19 = .ok (.getfield 91, 3) := by decide +kernel
theorem dX12_does_22 : decode cX12_does 22 = .ok (.sipush 900, 3) := by decide +kernel
theorem dX12_does_25 : decode cX12_does 25 = .ok (.if_icmp .le 5, 3) := by decide +kernel
theorem dX12_does_30 : decode cX12_does 30 = .ok (.aload_n 0, 1) := by decide +kernel
theorem dX12_does_31 : decode cX12_does 31 = .ok (.iload_n 2, 1) := by decide +kernel
theorem dX12_does_32 : decode cX12_does 32 = .ok (.iconst 0, 1) := by decide +kernel
set_option maxRecDepth 20000 in
theorem ggX12_does_X12_read : GoodIn wsX12_does wsX12_read := goodIn_r _ [23, 3, 2, 1, 24, 25, 26, 27, 28, 29, 7, 30, 19, 31, 32, 33, 34, 35, 36, 37, 38, 39, 40, 41, 14, 42, 43, 44, 45, 46, 47, 48, 49, 50, 51, 52, 53, 54, 55, 56, 57, 58, 59, 60, 61, 62, 63, 64, 65, 66, 67, 68, 69, 70, 71, 72, 73, 74, 75, 76, 77, 78, 79, 80, 81, 82, 83] rfl (by decide +kernel)
set_option maxRecDepth 20000 in
theorem gX12_does_X12_read : GoodIn wsX12_does (wsV RX12 131 RX12 yX12_read wsX12_read) := goodIn_app (goodIn_r _ [20, 21, 22, 7] rfl (by decide +kernel)) ggX12_does_X12_read
theorem dX12_does_33 : decode cX12_does 33 = .ok (.invokevirtual 131, 3) := by decide +kernel
theorem dX12_does_36 : decode cX12_does 36 = .ok (.ifCond .ne 5, 3) := by decide +kernel
theorem dX12_does_41 : decode cX12_does 41 = .ok (.aload_n 0, 1) := by decide +kernel
theorem dX12_does_42 : decode cX12_does 42 = .ok (.getfield 119, 3) := by decide +kernel
theorem dX12_does_45 : decode cX12_does 45 = .ok (.sipush 300, 3) := by decide +kernel
theorem dX12_does_48 : decode cX12_does 48 = .ok (.if_icmp .gt 7, 3) := by decide +kernel
theorem dX12_does_55 : decode cX12_does 55 = .ok (.iconst 0, 1) := by decide +kernel
theorem dX12_does_56 : decode cX12_does 56 = .ok (.ireturn, 1) := by decide +kernel
theorem dX12_does_51 : decode cX12_does 51 = .ok (.iconst 1, 1) := by decide +kernel
theorem dX12_does_52 : decode cX12_does 52 = .ok (.goto 4, 3) := by decide +kernel
theorem dX12_does_39 : decode cX12_does 39 = .ok (.iconst 0, 1) := by decide +kernel
theorem dX12_does_40 : decode cX12_does 40 = .ok (.ireturn, 1) := by decide +kernel
theorem dX12_does_28 : decode cX12_does 28 = .ok (.iconst 0, 1) := by decide +kernel
theorem dX12_does_29 : decode cX12_does 29 = .ok (.ireturn, 1) := by decide +kernel
theorem dX12_does_16 : decode cX12_does 16 = .ok (.iconst 0, 1) := by decide +kernel
theorem dX12_does_17 : decode cX12_does 17 = .ok (.ireturn, 1) := by decide +kernel
theorem dX12_undoes_0 : decode cX12_undoes 0 = .ok (.aload_n 0, 1) := by decide +kernel
theorem dX12_undoes_1 : decode cX12_undoes 1 = .ok (.iload_n 2, 1) := by decide +kernel
theorem dX12_undoes_2 : decode cX12_undoes 2 = .ok (.iload_n 1, 1) := by decide +kernel
theorem dX12_undoes_3 : decode cX12_undoes 3 = .ok (.aload_n 0, 1) := by decide +kernel
theorem dX12_undoes_4 : decode cX12_undoes 4 = .ok (.getfield 64, 3) := by decide +kernel
theorem dX12_undoes_7 : decode cX12_undoes 7 = .ok (.aload_n 0, 1) := by decide +kernel
theorem dX12_undoes_8 : decode cX12_undoes 8 = .ok (.getfield 135, 3) := by decide +kernel
set_option maxRecDepth 20000 in
theorem ggX12_undoes_X12_does : GoodIn wsX12_undoes wsX12_does := goodIn_r _ [11, 6, 12, 3, 13, 14, 15, 10, 16, 17, 18, 19, 20, 21, 22, 23, 24, 25, 26, 27, 28, 29, 30, 31, 5, 32, 33, 34, 35, 36, 37, 38, 39, 40, 41, 42, 43, 44, 45, 46, 47, 48, 49, 50, 51, 52, 53, 54, 55, 56, 57, 58, 59, 60, 61, 62, 63, 64, 65, 66, 67, 68, 69, 70, 71, 72, 73, 74, 75, 76, 77, 78, 79, 80, 81, 82, 83, 84, 85, 86, 87, 88, 89, 90] rfl (by decide +kernel)
set_option maxRecDepth 20000 in
theorem gX12_undoes_X12_does : GoodIn wsX12_undoes (wsV RX12 138 RX12 yX12_does wsX12_does) := goodIn_app (goodIn_r _ [7, 8, 9, 10] rfl (by decide +kernel)) ggX12_undoes_X12_does
theorem dX12_undoes_11 : decode cX12_undoes 11 = .ok (.invokevirtual 138, 3) := by decide +kernel
theorem dX12_undoes_14 : decode cX12_undoes 14 = .ok (.ifCond .ne 5, 3) := by decide +kernel
theorem dX12_undoes_19 : decode cX12_undoes 19 = .ok (.aload_n 0, 1) := by decide +kernel
theorem dX12_undoes_20 : decode cX12_undoes 20 = .ok (.getfield 119, 3) := by decide +kernel
theorem dX12_undoes_23 : decode cX12_undoes 23 = .ok (.istore_n 3, 1) := by decide +kernel
theorem dX12_undoes_24 : decode cX12_undoes 24 = .ok (.iconst 0, 1) := by decide +kernel
theorem dX12_undoes_25 : decode cX12_undoes 25 = .ok (.istore 4, 2) := by decide +kernel
theorem dX12_undoes_27 : decode cX12_undoes 27 = .ok (.iload 4, 2) := by decide +kernel
theorem dX12_undoes_29 : decode cX12_undoes 29 = .ok (.iload_n 3, 1) := by decide +kernel
theorem dX12_undoes_30 : decode cX12_undoes 30 = .ok (.if_icmp .ge 23, 3) := by decide +kernel
theorem dX12_undoes_85 : decode cX12_undoes 85 = .ok (.iconst 0, 1) := by decide +kernel
theorem dX12_undoes_86 : decode cX12_undoes 86 = .ok (.istore 5, 2) := by decide +kernel
theorem dX12_undoes_88 : decode cX12_undoes 88 = .ok (.iload 4, 2) := by decide +kernel
theorem dX12_undoes_90 : decode cX12_undoes 90 = .ok (.ifCond .eq 42, 3) := by decide +kernel
theorem dX12_undoes_132 : decode cX12_undoes 132 = .ok (.aload_n 0, 1) := by decide +kernel
theorem dX12_undoes_133 : decode cX12_undoes 133 = .ok (.iconst (-1), 1) := by decide +kernel
theorem dX12_undoes_134 : decode cX12_undoes 134 = .ok (.putfield 102, 3) := by decide +kernel
theorem dX12_undoes_137 : decode cX12_undoes 137 = .ok (.iload 4, 2) := by decide +kernel
theorem dX12_undoes_139 : decode cX12_undoes 139 = .ok (.ifCond .ne 5, 3) := by decide +kernel
theorem dX12_undoes_142 : decode cX12_undoes 142 = .ok (.iconst 0, 1) := by decide +kernel
theorem dX12_undoes_143 : decode cX12_undoes 143 = .ok (.ireturn, 1) := by decide +kernel
theorem dX12_undoes_93 : decode cX12_undoes 93 = .ok (.iload 5, 2) := by decide +kernel
theorem dX12_undoes_95 : decode cX12_undoes 95 = .ok (.aload_n 0, 1) := by decide +kernel
theorem dX12_undoes_96 : decode cX12_undoes 96 = .ok (.getfield 135, 3) := by decide +kernel
theorem dX12_undoes_99 : decode cX12_undoes 99 = .ok (.if_icmp .ge 33, 3) := by decide +kernel
theorem dX12_undoes_144 : decode cX12_undoes 144 = .ok (.iconst 0, 1) := by decide +kernel
theorem dX12_undoes_145 : decode cX12_undoes 145 = .ok (.istore 5, 2) := by decide +kernel
theorem dX12_undoes_147 : decode cX12_undoes 147 = .ok (.iload 5, 2) := by decide +kernel
theorem dX12_undoes_149 : decode cX12_undoes 149 = .ok (.iload_n 3, 1) := by decide +kernel
theorem dX12_undoes_150 : decode cX12_undoes 150 = .ok (.if_icmp .ge 23, 3) := by decide +kernel
theorem dX12_undoes_173 : decode cX12_undoes 173 = .ok (.aload_n 0, 1) := by decide +kernel
theorem dX12_undoes_174 : decode cX12_undoes 174 = .ok (.iload_n 3, 1) := by decide +kernel
theorem dX12_undoes_175 : decode cX12_undoes 175 = .ok (.putfield 135, 3) := by decide +kernel
theorem dX12_undoes_178 : decode cX12_undoes 178 = .ok (.iconst 1, 1) := by decide +kernel
theorem dX12_undoes_179 : decode cX12_undoes 179 = .ok (.ireturn, 1) := by decide +kernel
theorem dX12_undoes_153 : decode cX12_undoes 153 = .ok (.aload_n 0, 1) := by decide +kernel
theorem dX12_undoes_154 : decode cX12_undoes 154 = .ok (.getfield 64, 3) := by decide +kernel
theorem dX12_undoes_157 : decode cX12_undoes 157 = .ok (.iload 5, 2) := by decide +kernel
theorem dX12_undoes_159 : decode cX12_undoes 159 = .ok (.aload_n 0, 1) := by decide +kernel
theorem dX12_undoes_160 : decode cX12_undoes 160 = .ok (.getfield 67, 3) := by decide +kernel
theorem dX12_undoes_163 : decode cX12_undoes 163 = .ok (.iload 5, 2) := by decide +kernel
theorem dX12_undoes_165 : decode cX12_undoes 165 = .ok (.iaload, 1) := by decide +kernel
theorem dX12_undoes_166 : decode cX12_undoes 166 = .ok (.iastore, 1) := by decide +kernel
theorem dX12_undoes_167 : decode cX12_undoes 167 = .ok (.iinc 5 1, 3) := by decide +kernel
theorem dX12_undoes_170 : decode cX12_undoes 170 = .ok (.goto (-23), 3) := by decide +kernel
theorem dX12_undoes_102 : decode cX12_undoes 102 = .ok (.aload_n 0, 1) := by decide +kernel
theorem dX12_undoes_103 : decode cX12_undoes 103 = .ok (.getfield 61, 3) := by decide +kernel
theorem dX12_undoes_106 : decode cX12_undoes 106 = .ok (.iload 5, 2) := by decide +kernel
theorem dX12_undoes_108 : decode cX12_undoes 108 = .ok (.iaload, 1) := by decide +kernel
theorem dX12_undoes_109 : decode cX12_undoes 109 = .ok (.aload_n 0, 1) := by decide +kernel
theorem dX12_undoes_110 : decode cX12_undoes 110 = .ok (.getfield 64, 3) := by decide +kernel
theorem dX12_undoes_113 : decode cX12_undoes 113 = .ok (.iload 5, 2) := by decide +kernel
theorem dX12_undoes_115 : decode cX12_undoes 115 = .ok (.iaload, 1) := by decide +kernel
theorem dX12_undoes_116 : decode cX12_undoes 116 = .ok (.if_icmp .ne 7, 3) := by decide +kernel
theorem dX12_undoes_123 : decode cX12_undoes 123 = .ok (.iconst 0, 1) := by decide +kernel
theorem dX12_undoes_124 : decode cX12_undoes 124 = .ok (.istore 4, 2) := by decide +kernel
theorem dX12_undoes_126 : decode cX12_undoes 126 = .ok (.iinc 5 1, 3) := by decide +kernel
theorem dX12_undoes_129 : decode cX12_undoes 129 = .ok (.goto (-41), 3) := by decide +kernel
theorem dX12_undoes_119 : decode cX12_undoes 119 = .ok (.iconst 1, 1) := by decide +kernel
theorem dX12_undoes_120 : decode cX12_undoes 120 = .ok (.goto 4, 3) := by decide +kernel
theorem dX12_undoes_53 : decode cX12_undoes 53 = .ok (.aload_n 0, 1) := by decide +kernel
theorem dX12_undoes_54 : decode cX12_undoes 54 = .ok (.iload_n 1, 1) := by decide +kernel
theorem dX12_undoes_55 : decode cX12_undoes 55 = .ok (.iload_n 2, 1) := by decide +kernel
theorem dX12_undoes_56 : decode cX12_undoes 56 = .ok (.aload_n 0, 1) := by decide +kernel
theorem dX12_undoes_57 : decode cX12_undoes 57 = .ok (.getfield 67, 3) := by decide +kernel
theorem dX12_undoes_60 : decode cX12_undoes 60 = .ok (.iload_n 3, 1) := by decide +kernel
theorem dX12_undoes_61 : decode cX12_undoes 61 = .ok (.invokevirtual 138, 3) := by decide +kernel
theorem dX12_undoes_64 : decode cX12_undoes 64 = .ok (.ifCond .eq 18, 3) := by decide +kernel
theorem dX12_undoes_82 : decode cX12_undoes 82 = .ok (.iconst 0, 1) := by decide +kernel
theorem dX12_undoes_83 : decode cX12_undoes 83 = .ok (.istore 4, 2) := by decide +kernel
theorem dX12_undoes_67 : decode cX12_undoes 67 = .ok (.aload_n 0, 1) := by decide +kernel
theorem dX12_undoes_68 : decode cX12_undoes 68 = .ok (.getfield 119, 3) := by decide +kernel
theorem dX12_undoes_71 : decode cX12_undoes 71 = .ok (.aload_n 0, 1) := by decide +kernel
theorem dX12_undoes_72 : decode cX12_undoes 72 = .ok (.getfield 135, 3) := by decide +kernel
theorem dX12_undoes_75 : decode cX12_undoes 75 = .ok (.if_icmp .ne 7, 3) := by decide +kernel
theorem dX12_undoes_78 : decode cX12_undoes 78 = .ok (.iconst 1, 1) := by decide +kernel
theorem dX12_undoes_79 : decode cX12_undoes 79 = .ok (.goto 4, 3) := by decide +kernel
theorem dX12_undoes_33 : decode cX12_undoes 33 = .ok (.aload_n 0, 1) := by decide +kernel
theorem dX12_undoes_34 : decode cX12_undoes 34 = .ok (.getfield 67, 3) := by decide +kernel
theorem dX12_undoes_37 : decode cX12_undoes 37 = .ok (.iload 4, 2) := by decide +kernel
theorem dX12_undoes_39 : decode cX12_undoes 39 = .ok (.aload_n 0, 1) := by decide +kernel
theorem dX12_undoes_40 : decode cX12_undoes 40 = .ok (.getfield 61, 3) := by decide +kernel
theorem dX12_undoes_43 : decode cX12_undoes 43 = .ok (.iload 4, 2) := by decide +kernel
theorem dX12_undoes_45 : decode cX12_undoes 45 = .ok (.iaload, 1) := by decide +kernel
theorem dX12_undoes_46 : decode cX12_undoes 46 = .ok (.iastore, 1) := by decide +kernel
theorem dX12_undoes_47 : decode cX12_undoes 47 = .ok (.iinc 4 1, 3) := by decide +kernel
theorem dX12_undoes_50 : decode cX12_undoes 50 = .ok (.goto (-23), 3) := by decide +kernel
theorem dX12_undoes_17 : decode cX12_undoes 17 = .ok (.iconst 0, 1) := by decide +kernel
theorem dX12_undoes_18 : decode cX12_undoes 18 = .ok (.ireturn, 1) := by decide +kernel
theorem dX12_takeText_0 : decode cX12_takeText 0 = .ok (.aload_n 0, 1) := by decide +kernel
theorem dX12_takeText_1 : decode cX12_takeText 1 = .ok (.aload_n 0, 1) := by decide +kernel
theorem dX12_takeText_2 : decode cX12_takeText 2 = .ok (.getfield 13, 3) := by decide +kernel
theorem dX12_takeText_5 : decode cX12_takeText 5 = .ok (.iconst 0, 1) := by decide +kernel
theorem dX12_takeText_6 : decode cX12_takeText 6 = .ok (.iaload, 1) := by decide +kernel
theorem dX12_takeText_7 : decode cX12_takeText 7 = .ok (.putfield 135, 3) := by decide +kernel
theorem dX12_takeText_10 : decode cX12_takeText 10 = .ok (.iconst 0, 1) := by decide +kernel
theorem dX12_takeText_11 : decode cX12_takeText 11 = .ok (.istore_n 1, 1) := by decide +kernel
theorem dX12_takeText_12 : decode cX12_takeText 12 = .ok (.iload_n 1, 1) := by decide +kernel
theorem dX12_takeText_13 : decode cX12_takeText 13 = .ok (.aload_n 0, 1) := by decide +kernel
theorem dX12_takeText_14 : decode cX12_takeText 14 = .ok (.getfield 135, 3) := by decide +kernel
theorem dX12_takeText_17 : decode cX12_takeText 17 = .ok (.if_icmp .ge 21, 3) := by decide +kernel
theorem dX12_takeText_38 : decode cX12_takeText 38 = .ok (.return_, 1) := by decide +kernel
theorem dX12_takeText_20 : decode cX12_takeText 20 = .ok (.aload_n 0, 1) := by decide +kernel
theorem dX12_takeText_21 : decode cX12_takeText 21 = .ok (.getfield 64, 3) := by decide +kernel
theorem dX12_takeText_24 : decode cX12_takeText 24 = .ok (.iload_n 1, 1) := by decide +kernel
theorem dX12_takeText_25 : decode cX12_takeText 25 = .ok (.aload_n 0, 1) := by decide +kernel
theorem dX12_takeText_26 : decode cX12_takeText 26 = .ok (.getfield 16, 3) := by decide +kernel
theorem dX12_takeText_29 : decode cX12_takeText 29 = .ok (.iload_n 1, 1) := by decide +kernel
theorem dX12_takeText_30 : decode cX12_takeText 30 = .ok (.iaload, 1) := by decide +kernel
theorem dX12_takeText_31 : decode cX12_takeText 31 = .ok (.iastore, 1) := by decide +kernel
theorem dX12_takeText_32 : decode cX12_takeText 32 = .ok (.iinc 1 1, 3) := by decide +kernel
theorem dX12_takeText_35 : decode cX12_takeText 35 = .ok (.goto (-23), 3) := by decide +kernel
