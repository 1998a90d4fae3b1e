theorem dX12_init_0 : decode cX12_init 0 = .ok (.aload_n 0, 1) := by decide +kernel
theorem dX12_init_1 : decode cX12_init 1 = .ok (.invokespecial 1, 3) := by decide +kernel
theorem dX12_init_4 : decode cX12_init 4 = .ok (.aload_n 0, 1) := by decide +kernel
theorem dX12_init_5 : decode cX12_init 5 = .ok (.sipush 900, 3) := by decide +kernel
theorem dX12_init_8 : decode cX12_init 8 = .ok (.newarray .int, 2) := by decide +kernel
theorem dX12_init_10 : decode cX12_init 10 = .ok (.putfield 9, 3) := by decide +kernel
theorem dX12_init_13 : decode cX12_init 13 = .ok (.aload_n 0, 1) := by decide +kernel
theorem dX12_init_14 : decode cX12_init 14 = .ok (.bipush 21, 2) := by decide +kernel
theorem dX12_init_16 : decode cX12_init 16 = .ok (.newarray .int, 2) := by decide +kernel
theorem dX12_init_18 : decode cX12_init 18 = .ok (.putfield 13, 3) := by decide +kernel
theorem dX12_init_21 : decode cX12_init 21 = .ok (.aload_n 0, 1) := by decide +kernel
theorem dX12_init_22 : decode cX12_init 22 = .ok (.sipush 6300, 3) := by decide +kernel
theorem dX12_init_25 : decode cX12_init 25 = .ok (.newarray .int, 2) := by decide +kernel
theorem dX12_init_27 : decode cX12_init 27 = .ok (.putfield 16, 3) := by decide +kernel
theorem dX12_init_30 : decode cX12_init 30 = .ok (.aload_n 0, 1) := by decide +kernel
theorem dX12_init_31 : decode cX12_init 31 = .ok (.sipush 512, 3) := by decide +kernel
theorem dX12_init_34 : decode cX12_init 34 = .ok (.newarray .int, 2) := by decide +kernel
theorem dX12_init_36 : decode cX12_init 36 = .ok (.putfield 19, 3) := by decide +kernel
theorem dX12_init_39 : decode cX12_init 39 = .ok (.aload_n 0, 1) := by decide +kernel
theorem dX12_init_40 : decode cX12_init 40 = .ok (.ldc 22, 2) := by decide +kernel
theorem dX12_init_42 : decode cX12_init 42 = .ok (.newarray .short, 2) := by decide +kernel
theorem dX12_init_44 : decode cX12_init 44 = .ok (.putfield 23, 3) := by decide +kernel
theorem dX12_init_47 : decode cX12_init 47 = .ok (.aload_n 0, 1) := by decide +kernel
theorem dX12_init_48 : decode cX12_init 48 = .ok (.iconst 2, 1) := by decide +kernel
theorem dX12_init_49 : decode cX12_init 49 = .ok (.newarray .int, 2) := by decide +kernel
theorem dX12_init_51 : decode cX12_init 51 = .ok (.putfield 27, 3) := by decide +kernel
theorem dX12_init_54 : decode cX12_init 54 = .ok (.aload_n 0, 1) := by decide +kernel
theorem dX12_init_55 : decode cX12_init 55 = .ok (.bipush 6, 2) := by decide +kernel
theorem dX12_init_57 : decode cX12_init 57 = .ok (.newarray .int, 2) := by decide +kernel
theorem dX12_init_59 : decode cX12_init 59 = .ok (.putfield 30, 3) := by decide +kernel
theorem dX12_init_62 : decode cX12_init 62 = .ok (.aload_n 0, 1) := by decide +kernel
theorem dX12_init_63 : decode cX12_init 63 = .ok (.bipush 6, 2) := by decide +kernel
theorem dX12_init_65 : decode cX12_init 65 = .ok (.newarray .int, 2) := by decide +kernel
theorem dX12_init_67 : decode cX12_init 67 = .ok (.putfield 33, 3) := by decide +kernel
theorem dX12_init_70 : decode cX12_init 70 = .ok (.aload_n 0, 1) := by decide +kernel
theorem dX12_init_71 : decode cX12_init 71 = .ok (.sipush 1548, 3) := by decide +kernel
theorem dX12_init_74 : decode cX12_init 74 = .ok (.newarray .int, 2) := by decide +kernel
theorem dX12_init_76 : decode cX12_init 76 = .ok (.putfield 36, 3) := by decide +kernel
theorem dX12_init_79 : decode cX12_init 79 = .ok (.aload_n 0, 1) := by decide +kernel
theorem dX12_init_80 : decode cX12_init 80 = .ok (.sipush 300, 3) := by decide +kernel
theorem dX12_init_83 : decode cX12_init 83 = .ok (.newarray .int, 2) := by decide +kernel
theorem dX12_init_85 : decode cX12_init 85 = .ok (.putfield 39, 3) := by decide +kernel
theorem dX12_init_88 : decode cX12_init 88 = .ok (.aload_n 0, 1) := by decide +kernel
theorem dX12_init_89 : decode cX12_init 89 = .ok (.sipush 300, 3) := by decide +kernel
theorem dX12_init_92 : decode cX12_init 92 = .ok (.newarray .int, 2) := by decide +kernel
theorem dX12_init_94 : decode cX12_init 94 = .ok (.putfield 42, 3) := by decide +kernel
theorem dX12_init_97 : decode cX12_init 97 = .ok (.aload_n 0, 1) := by decide +kernel
theorem dX12_init_98 : decode cX12_init 98 = .ok (.sipush 300, 3) := by decide +kernel
theorem dX12_init_101 : decode cX12_init 101 = .ok (.newarray .int, 2) := by decide +kernel
theorem dX12_init_103 : decode cX12_init 103 = .ok (.putfield 45, 3) := by decide +kernel
theorem dX12_init_106 : decode cX12_init 106 = .ok (.aload_n 0, 1) := by decide +kernel
theorem dX12_init_107 : decode cX12_init 107 = .ok (.sipush 800, 3) := by decide +kernel
theorem dX12_init_110 : decode cX12_init 110 = .ok (.newarray .int, 2) := by decide +kernel
theorem dX12_init_112 : decode cX12_init 112 = .ok (.putfield 48, 3) := by decide +kernel
theorem dX12_init_115 : decode cX12_init 115 = .ok (.aload_n 0, 1) := by decide +kernel
theorem dX12_init_116 : decode cX12_init 116 = .ok (.iconst (-1), 1) := by decide +kernel
theorem dX12_init_117 : decode cX12_init 117 = .ok (.putfield 51, 3) := by decide +kernel
theorem dX12_init_120 : decode cX12_init 120 = .ok (.aload_n 0, 1) := by decide +kernel
theorem dX12_init_121 : decode cX12_init 121 = .ok (.iconst (-1), 1) := by decide +kernel
theorem dX12_init_122 : decode cX12_init 122 = .ok (.putfield 55, 3) := by decide +kernel
theorem dX12_init_125 : decode cX12_init 125 = .ok (.aload_n 0, 1) := by decide +kernel
theorem dX12_init_126 : decode cX12_init 126 = .ok (.sipush 2600, 3) := by decide +kernel
theorem dX12_init_129 : decode cX12_init 129 = .ok (.newarray .int, 2) := by decide +kernel
theorem dX12_init_131 : decode cX12_init 131 = .ok (.putfield 58, 3) := by decide +kernel
theorem dX12_init_134 : decode cX12_init 134 = .ok (.aload_n 0, 1) := by decide +kernel
theorem dX12_init_135 : decode cX12_init 135 = .ok (.sipush 2600, 3) := by decide +kernel
theorem dX12_init_138 : decode cX12_init 138 = .ok (.newarray .int, 2) := by decide +kernel
theorem dX12_init_140 : decode cX12_init 140 = .ok (.putfield 61, 3) := by decide +kernel
theorem dX12_init_143 : decode cX12_init 143 = .ok (.aload_n 0, 1) := by decide +kernel
theorem dX12_init_144 : decode cX12_init 144 = .ok (.sipush 300, 3) := by decide +kernel
theorem dX12_init_147 : decode cX12_init 147 = .ok (.newarray .int, 2) := by decide +kernel
theorem dX12_init_149 : decode cX12_init 149 = .ok (.putfield 64, 3) := by decide +kernel
theorem dX12_init_152 : decode cX12_init 152 = .ok (.aload_n 0, 1) := by decide +kernel
theorem dX12_init_153 : decode cX12_init 153 = .ok (.sipush 300, 3) := by decide +kernel
theorem dX12_init_156 : decode cX12_init 156 = .ok (.newarray .int, 2) := by decide +kernel
theorem dX12_init_158 : decode cX12_init 158 = .ok (.putfield 67, 3) := by decide +kernel
theorem dX12_init_161 : decode cX12_init 161 = .ok (.aload_n 0, 1) := by decide +kernel
theorem dX12_init_162 : decode cX12_init 162 = .ok (.bipush 61, 2) := by decide +kernel
theorem dX12_init_164 : decode cX12_init 164 = .ok (.newarray .int, 2) := by decide +kernel
theorem dX12_init_166 : decode cX12_init 166 = .ok (.putfield 70, 3) := by decide +kernel
theorem dX12_init_169 : decode cX12_init 169 = .ok (.aload_n 0, 1) := by decide +kernel
theorem dX12_init_170 : decode cX12_init 170 = .ok (.bipush 61, 2) := by decide +kernel
theorem dX12_init_172 : decode cX12_init 172 = .ok (.newarray .int, 2) := by decide +kernel
theorem dX12_init_174 : decode cX12_init 174 = .ok (.putfield 73, 3) := by decide +kernel
theorem dX12_init_177 : decode cX12_init 177 = .ok (.aload_n 0, 1) := by decide +kernel
theorem dX12_init_178 : decode cX12_init 178 = .ok (.bipush 61, 2) := by decide +kernel
theorem dX12_init_180 : decode cX12_init 180 = .ok (.newarray .int, 2) := by decide +kernel
theorem dX12_init_182 : decode cX12_init 182 = .ok (.putfield 76, 3) := by decide +kernel
theorem dX12_init_185 : decode cX12_init 185 = .ok (.aload_n 0, 1) := by decide +kernel
theorem dX12_init_186 : decode cX12_init 186 = .ok (.bipush 61, 2) := by decide +kernel
theorem dX12_init_188 : decode cX12_init 188 = .ok (.newarray .int, 2) := by decide +kernel
theorem dX12_init_190 : decode cX12_init 190 = .ok (.putfield 79, 3) := by decide +kernel
theorem dX12_init_193 : decode cX12_init 193 = .ok (.aload_n 0, 1) := by decide +kernel
theorem dX12_init_194 : decode cX12_init 194 = .ok (.sipush 600, 3) := by decide +kernel
theorem dX12_init_197 : decode cX12_init 197 = .ok (.newarray .int, 2) := by decide +kernel
theorem dX12_init_199 : decode cX12_init 199 = .ok (.putfield 82, 3) := by decide +kernel
theorem dX12_init_202 : decode cX12_init 202 = .ok (.iconst 0, 1) := by decide +kernel
theorem dX12_init_203 : decode cX12_init 203 = .ok (.istore_n 1, 1) := by decide +kernel
theorem dX12_init_204 : decode cX12_init 204 = .ok (.iload_n 1, 1) := by decide +kernel
theorem dX12_init_205 : decode cX12_init 205 = .ok (.sipush 512, 3) := by decide +kernel
theorem dX12_init_208 : decode cX12_init 208 = .ok (.if_icmp .ge 16, 3) := by decide +kernel
theorem dX12_init_211 : decode cX12_init 211 = .ok (.aload_n 0, 1) := by decide +kernel
theorem dX12_init_212 : decode cX12_init 212 = .ok (.getfield 19, 3) := by decide +kernel
theorem dX12_init_215 : decode cX12_init 215 = .ok (.iload_n 1, 1) := by decide +kernel
theorem dX12_init_216 : decode cX12_init 216 = .ok (.iconst (-1), 1) := by decide +kernel
theorem dX12_init_217 : decode cX12_init 217 = .ok (.iastore, 1) := by decide +kernel
theorem dX12_init_218 : decode cX12_init 218 = .ok (.iinc 1 1, 3) := by decide +kernel
theorem dX12_init_221 : decode cX12_init 221 = .ok (.goto (-17), 3) := by decide +kernel
theorem dX12_init_224 : decode cX12_init 224 = .ok (.iconst 0, 1) := by decide +kernel
theorem dX12_init_225 : decode cX12_init 225 = .ok (.istore_n 1, 1) := by decide +kernel
theorem dX12_init_226 : decode cX12_init 226 = .ok (.iload_n 1, 1) := by decide +kernel
theorem dX12_init_227 : decode cX12_init 227 = .ok (.ldc 22, 2) := by decide +kernel
theorem dX12_init_229 : decode cX12_init 229 = .ok (.if_icmp .ge 16, 3) := by decide +kernel
theorem dX12_init_232 : decode cX12_init 232 = .ok (.aload_n 0, 1) := by decide +kernel
theorem dX12_init_233 : decode cX12_init 233 = .ok (.getfield 23, 3) := by decide +kernel
theorem dX12_init_236 : decode cX12_init 236 = .ok (.iload_n 1, 1) := by decide +kernel
theorem dX12_init_237 : decode cX12_init 237 = .ok (.iconst (-1), 1) := by decide +kernel
theorem dX12_init_238 : decode cX12_init 238 = .ok (.sastore, 1) := by decide +kernel
theorem dX12_init_239 : decode cX12_init 239 = .ok (.iinc 1 1, 3) := by decide +kernel
theorem dX12_init_242 : decode cX12_init 242 = .ok (.goto (-16), 3) := by decide +kernel
theorem dX12_init_245 : decode cX12_init 245 = .ok (.return_, 1) := by decide +kernel
theorem dX12_thrown_0 : decode cX12_thrown 0 = .ok (.aload_n 0, 1) := by decide +kernel
theorem dX12_thrown_1 : decode cX12_thrown 1 = .ok (.getfield 85, 3) := by decide +kernel
theorem dX12_thrown_4 : decode cX12_thrown 4 = .ok (.ireturn, 1) := by decide +kernel
theorem dX12_isLetter_0 : decode cX12_isLetter 0 = .ok (.iload_n 0, 1) := by decide +kernel
theorem dX12_isLetter_1 : decode cX12_isLetter 1 = .ok (.ifCond .lt 25, 3) := by decide +kernel
theorem dX12_isLetter_4 : decode cX12_isLetter 4 = .ok (.iload_n 0, 1) := by decide +kernel
theorem dX12_isLetter_5 : decode cX12_isLetter 5 = .ok (.ldc 88, 2) := by decide +kernel
theorem dX12_isLetter_7 : decode cX12_isLetter 7 = .ok (.if_icmp .ge 19, 3) := by decide +kernel
theorem dX12_isLetter_10 : decode cX12_isLetter 10 = .ok (.iload_n 0, 1) := by decide +kernel
theorem dX12_isLetter_11 : decode cX12_isLetter 11 = .ok (.ldc 89, 2) := by decide +kernel
theorem dX12_isLetter_13 : decode cX12_isLetter 13 = .ok (.if_icmp .lt 9, 3) := by decide +kernel
theorem dX12_isLetter_16 : decode cX12_isLetter 16 = .ok (.iload_n 0, 1) := by decide +kernel
theorem dX12_isLetter_17 : decode cX12_isLetter 17 = .ok (.ldc 90, 2) := by decide +kernel
theorem dX12_isLetter_19 : decode cX12_isLetter 19 = .ok (.if_icmp .le 7, 3) := by decide +kernel
theorem dX12_isLetter_22 : decode cX12_isLetter 22 = .ok (.iconst 1, 1) := by decide +kernel
theorem dX12_isLetter_23 : decode cX12_isLetter 23 = .ok (.goto 4, 3) := by decide +kernel
theorem dX12_isLetter_26 : decode cX12_isLetter 26 = .ok (.iconst 0, 1) := by decide +kernel
theorem dX12_isLetter_27 : decode cX12_isLetter 27 = .ok (.ireturn, 1) := by decide +kernel
theorem dX12_isCode_0 : decode cX12_isCode 0 = .ok (.iload_n 0, 1) := by decide +kernel
theorem dX12_isCode_1 : decode cX12_isCode 1 = .ok (.ifCond .lt 13, 3) := by decide +kernel
theorem dX12_isCode_4 : decode cX12_isCode 4 = .ok (.iload_n 0, 1) := by decide +kernel
theorem dX12_isCode_5 : decode cX12_isCode 5 = .ok (.bipush 6, 2) := by decide +kernel
theorem dX12_isCode_7 : decode cX12_isCode 7 = .ok (.if_icmp .ge 7, 3) := by decide +kernel
theorem dX12_isCode_10 : decode cX12_isCode 10 = .ok (.iconst 1, 1) := by decide +kernel
theorem dX12_isCode_11 : decode cX12_isCode 11 = .ok (.goto 4, 3) := by decide +kernel
theorem dX12_isCode_14 : decode cX12_isCode 14 = .ok (.iconst 0, 1) := by decide +kernel
theorem dX12_isCode_15 : decode cX12_isCode 15 = .ok (.ireturn, 1) := by decide +kernel
theorem dX12_put_0 : decode cX12_put 0 = .ok (.aload_n 0, 1) := by decide +kernel
theorem dX12_put_1 : decode cX12_put 1 = .ok (.getfield 58, 3) := by decide +kernel
theorem dX12_put_4 : decode cX12_put 4 = .ok (.aload_n 0, 1) := by decide +kernel
theorem dX12_put_5 : decode cX12_put 5 = .ok (.getfield 91, 3) := by decide +kernel
theorem dX12_put_8 : decode cX12_put 8 = .ok (.iload_n 1, 1) := by decide +kernel
theorem dX12_put_9 : decode cX12_put 9 = .ok (.iastore, 1) := by decide +kernel
theorem dX12_put_10 : decode cX12_put 10 = .ok (.aload_n 0, 1) := by decide +kernel
theorem dX12_put_11 : decode cX12_put 11 = .ok (.dup, 1) := by decide +kernel
theorem dX12_put_12 : decode cX12_put 12 = .ok (.getfield 91, 3) := by decide +kernel
theorem dX12_put_15 : decode cX12_put 15 = .ok (.iconst 1, 1) := by decide +kernel
theorem dX12_put_16 : decode cX12_put 16 = .ok (.iadd, 1) := by decide +kernel
theorem dX12_put_17 : decode cX12_put 17 = .ok (.putfield 91, 3) := by decide +kernel
theorem dX12_put_20 : decode cX12_put 20 = .ok (.return_, 1) := by decide +kernel
set_option maxRecDepth 20000 in
theorem ggX12_writeLetter_X12_put : GoodIn wsX12_writeLetter wsX12_put := goodIn_r _ [7, 8, 9, 10, 11, 12, 13, 14, 15, 16, 17, 18, 19, 20, 21, 22, 23, 24, 25, 26, 27, 28, 29, 30, 31, 32, 33, 34, 35, 36, 37, 38, 39, 40, 41, 42, 43, 44, 45, 46, 47, 48, 49] (by decide +kernel) (by decide +kernel)
set_option maxRecDepth 20000 in
theorem gX12_writeLetter_X12_put : GoodIn wsX12_writeLetter (wsV RX12 94 RX12 yX12_put wsX12_put) := goodIn_app (goodIn_of _ (by decide +kernel)) ggX12_writeLetter_X12_put
theorem dX12_writeLetter_0 : decode cX12_writeLetter 0 = .ok (.iload_n 1, 1) := by decide +kernel
theorem dX12_writeLetter_1 : decode cX12_writeLetter 1 = .ok (.iconst 2, 1) := by decide +kernel
theorem dX12_writeLetter_2 : decode cX12_writeLetter 2 = .ok (.if_icmp .ge 29, 3) := by decide +kernel
theorem dX12_writeLetter_5 : decode cX12_writeLetter 5 = .ok (.iload_n 2, 1) := by decide +kernel
theorem dX12_writeLetter_6 : decode cX12_writeLetter 6 = .ok (.iload_n 1, 1) := by decide +kernel
theorem dX12_writeLetter_7 : decode cX12_writeLetter 7 = .ok (.ifCond .ne 8, 3) := by decide +kernel
theorem dX12_writeLetter_10 : decode cX12_writeLetter 10 = .ok (.bipush 127, 2) := by decide +kernel
theorem dX12_writeLetter_12 : decode cX12_writeLetter 12 = .ok (.goto 6, 3) := by decide +kernel
theorem dX12_writeLetter_15 : decode cX12_writeLetter 15 = .ok (.sipush 255, 3) := by decide +kernel
theorem dX12_writeLetter_18 : decode cX12_writeLetter 18 = .ok (.if_icmp .le 5, 3) := by decide +kernel
theorem dX12_writeLetter_21 : decode cX12_writeLetter 21 = .ok (.iconst 0, 1) := by decide +kernel
theorem dX12_writeLetter_22 : decode cX12_writeLetter 22 = .ok (.ireturn, 1) := by decide +kernel
theorem dX12_writeLetter_23 : decode cX12_writeLetter 23 = .ok (.aload_n 0, 1) := by decide +kernel
theorem dX12_writeLetter_24 : decode cX12_writeLetter 24 = .ok (.iload_n 2, 1) := by decide +kernel
theorem dX12_writeLetter_25 : decode cX12_writeLetter 25 = .ok (.invokevirtual 94, 3) := by decide +kernel
theorem dX12_writeLetter_28 : decode cX12_writeLetter 28 = .ok (.goto 216, 3) := by decide +kernel
theorem dX12_writeLetter_31 : decode cX12_writeLetter 31 = .ok (.iload_n 1, 1) := by decide +kernel
theorem dX12_writeLetter_32 : decode cX12_writeLetter 32 = .ok (.iconst 2, 1) := by decide +kernel
theorem dX12_writeLetter_33 : decode cX12_writeLetter 33 = .ok (.if_icmp .ne 95, 3) := by decide +kernel
theorem dX12_writeLetter_36 : decode cX12_writeLetter 36 = .ok (.iload_n 2, 1) := by decide +kernel
theorem dX12_writeLetter_37 : decode cX12_writeLetter 37 = .ok (.sipush 128, 3) := by decide +kernel
theorem dX12_writeLetter_40 : decode cX12_writeLetter 40 = .ok (.if_icmp .ge 11, 3) := by decide +kernel
theorem dX12_writeLetter_43 : decode cX12_writeLetter 43 = .ok (.aload_n 0, 1) := by decide +kernel
theorem dX12_writeLetter_44 : decode cX12_writeLetter 44 = .ok (.iload_n 2, 1) := by decide +kernel
theorem dX12_writeLetter_45 : decode cX12_writeLetter 45 = .ok (.invokevirtual 94, 3) := by decide +kernel
theorem dX12_writeLetter_48 : decode cX12_writeLetter 48 = .ok (.goto 196, 3) := by decide +kernel
theorem dX12_writeLetter_51 : decode cX12_writeLetter 51 = .ok (.iload_n 2, 1) := by decide +kernel
theorem dX12_writeLetter_52 : decode cX12_writeLetter 52 = .ok (.sipush 2048, 3) := by decide +kernel
theorem dX12_writeLetter_55 : decode cX12_writeLetter 55 = .ok (.if_icmp .ge 30, 3) := by decide +kernel
theorem dX12_writeLetter_58 : decode cX12_writeLetter 58 = .ok (.aload_n 0, 1) := by decide +kernel
theorem dX12_writeLetter_59 : decode cX12_writeLetter 59 = .ok (.sipush 192, 3) := by decide +kernel
theorem dX12_writeLetter_62 : decode cX12_writeLetter 62 = .ok (.iload_n 2, 1) := by decide +kernel
theorem dX12_writeLetter_63 : decode cX12_writeLetter 63 = .ok (.bipush 64, 2) := by decide +kernel
theorem dX12_writeLetter_65 : decode cX12_writeLetter 65 = .ok (.idiv, 1) := by decide +kernel
theorem dX12_writeLetter_66 : decode cX12_writeLetter 66 = .ok (.iadd, 1) := by decide +kernel
theorem dX12_writeLetter_67 : decode cX12_writeLetter 67 = .ok (.invokevirtual 94, 3) := by decide +kernel
theorem dX12_writeLetter_70 : decode cX12_writeLetter 70 = .ok (.aload_n 0, 1) := by decide +kernel
theorem dX12_writeLetter_71 : decode cX12_writeLetter 71 = .ok (.sipush 128, 3) := by decide +kernel
theorem dX12_writeLetter_74 : decode cX12_writeLetter 74 = .ok (.iload_n 2, 1) := by decide +kernel
theorem dX12_writeLetter_75 : decode cX12_writeLetter 75 = .ok (.bipush 64, 2) := by decide +kernel
theorem dX12_writeLetter_77 : decode cX12_writeLetter 77 = .ok (.irem, 1) := by decide +kernel
theorem dX12_writeLetter_78 : decode cX12_writeLetter 78 = .ok (.iadd, 1) := by decide +kernel
theorem dX12_writeLetter_79 : decode cX12_writeLetter 79 = .ok (.invokevirtual 94, 3) := by decide +kernel
theorem dX12_writeLetter_82 : decode cX12_writeLetter 82 = .ok (.goto 162, 3) := by decide +kernel
theorem dX12_writeLetter_85 : decode cX12_writeLetter 85 = .ok (.aload_n 0, 1) := by decide +kernel
theorem dX12_writeLetter_86 : decode cX12_writeLetter 86 = .ok (.sipush 224, 3) := by decide +kernel
theorem dX12_writeLetter_89 : decode cX12_writeLetter 89 = .ok (.iload_n 2, 1) := by decide +kernel
theorem dX12_writeLetter_90 : decode cX12_writeLetter 90 = .ok (.sipush 4096, 3) := by decide +kernel
theorem dX12_writeLetter_93 : decode cX12_writeLetter 93 = .ok (.idiv, 1) := by decide +kernel
theorem dX12_writeLetter_94 : decode cX12_writeLetter 94 = .ok (.iadd, 1) := by decide +kernel
theorem dX12_writeLetter_95 : decode cX12_writeLetter 95 = .ok (.invokevirtual 94, 3) := by decide +kernel
theorem dX12_writeLetter_98 : decode cX12_writeLetter 98 = .ok (.aload_n 0, 1) := by decide +kernel
theorem dX12_writeLetter_99 : decode cX12_writeLetter 99 = .ok (.sipush 128, 3) := by decide +kernel
theorem dX12_writeLetter_102 : decode cX12_writeLetter 102 = .ok (.iload_n 2, 1) := by decide +kernel
theorem dX12_writeLetter_103 : decode cX12_writeLetter 103 = .ok (.bipush 64, 2) := by decide +kernel
theorem dX12_writeLetter_105 : decode cX12_writeLetter 105 = .ok (.idiv, 1) := by decide +kernel
theorem dX12_writeLetter_106 : decode cX12_writeLetter 106 = .ok (.bipush 64, 2) := by decide +kernel
theorem dX12_writeLetter_108 : decode cX12_writeLetter 108 = .ok (.irem, 1) := by decide +kernel
theorem dX12_writeLetter_109 : decode cX12_writeLetter 109 = .ok (.iadd, 1) := by decide +kernel
theorem dX12_writeLetter_110 : decode cX12_writeLetter 110 = .ok (.invokevirtual 94, 3) := by decide +kernel
theorem dX12_writeLetter_113 : decode cX12_writeLetter 113 = .ok (.aload_n 0, 1) := by decide +kernel
theorem dX12_writeLetter_114 : decode cX12_writeLetter 114 = .ok (.sipush 128, 3) := by decide +kernel
theorem dX12_writeLetter_117 : decode cX12_writeLetter 117 = .ok (.iload_n 2, 1) := by decide +kernel
theorem dX12_writeLetter_118 : decode cX12_writeLetter 118 = .ok (.bipush 64, 2) := by decide +kernel
theorem dX12_writeLetter_120 : decode cX12_writeLetter 120 = .ok (.irem, 1) := by decide +kernel
theorem dX12_writeLetter_121 : decode cX12_writeLetter 121 = .ok (.iadd, 1) := by decide +kernel
theorem dX12_writeLetter_122 : decode cX12_writeLetter 122 = .ok (.invokevirtual 94, 3) := by decide +kernel
theorem dX12_writeLetter_125 : decode cX12_writeLetter 125 = .ok (.goto 119, 3) := by decide +kernel
theorem dX12_writeLetter_128 : decode cX12_writeLetter 128 = .ok (.iload_n 1, 1) := by decide +kernel
theorem dX12_writeLetter_129 : decode cX12_writeLetter 129 = .ok (.iconst 3, 1) := by decide +kernel
theorem dX12_writeLetter_130 : decode cX12_writeLetter 130 = .ok (.if_icmp .ne 88, 3) := by decide +kernel
theorem dX12_writeLetter_133 : decode cX12_writeLetter 133 = .ok (.iload_n 2, 1) := by decide +kernel
theorem dX12_writeLetter_134 : decode cX12_writeLetter 134 = .ok (.sipush 128, 3) := by decide +kernel
theorem dX12_writeLetter_137 : decode cX12_writeLetter 137 = .ok (.if_icmp .ge 17, 3) := by decide +kernel
theorem dX12_writeLetter_140 : decode cX12_writeLetter 140 = .ok (.iload_n 2, 1) := by decide +kernel
theorem dX12_writeLetter_141 : decode cX12_writeLetter 141 = .ok (.bipush 38, 2) := by decide +kernel
theorem dX12_writeLetter_143 : decode cX12_writeLetter 143 = .ok (.if_icmp .eq 11, 3) := by decide +kernel
theorem dX12_writeLetter_146 : decode cX12_writeLetter 146 = .ok (.aload_n 0, 1) := by decide +kernel
theorem dX12_writeLetter_147 : decode cX12_writeLetter 147 = .ok (.iload_n 2, 1) := by decide +kernel
theorem dX12_writeLetter_148 : decode cX12_writeLetter 148 = .ok (.invokevirtual 94, 3) := by decide +kernel
theorem dX12_writeLetter_151 : decode cX12_writeLetter 151 = .ok (.goto 93, 3) := by decide +kernel
theorem dX12_writeLetter_154 : decode cX12_writeLetter 154 = .ok (.aload_n 0, 1) := by decide +kernel
theorem dX12_writeLetter_155 : decode cX12_writeLetter 155 = .ok (.bipush 38, 2) := by decide +kernel
theorem dX12_writeLetter_157 : decode cX12_writeLetter 157 = .ok (.invokevirtual 94, 3) := by decide +kernel
theorem dX12_writeLetter_160 : decode cX12_writeLetter 160 = .ok (.aload_n 0, 1) := by decide +kernel
theorem dX12_writeLetter_161 : decode cX12_writeLetter 161 = .ok (.bipush 35, 2) := by decide +kernel
theorem dX12_writeLetter_163 : decode cX12_writeLetter 163 = .ok (.invokevirtual 94, 3) := by decide +kernel
theorem dX12_writeLetter_166 : decode cX12_writeLetter 166 = .ok (.iconst 1, 1) := by decide +kernel
theorem dX12_writeLetter_167 : decode cX12_writeLetter 167 = .ok (.istore_n 3, 1) := by decide +kernel
theorem dX12_writeLetter_168 : decode cX12_writeLetter 168 = .ok (.iload_n 2, 1) := by decide +kernel
theorem dX12_writeLetter_169 : decode cX12_writeLetter 169 = .ok (.iload_n 3, 1) := by decide +kernel
theorem dX12_writeLetter_170 : decode cX12_writeLetter 170 = .ok (.idiv, 1) := by decide +kernel
theorem dX12_writeLetter_171 : decode cX12_writeLetter 171 = .ok (.bipush 10, 2) := by decide +kernel
theorem dX12_writeLetter_173 : decode cX12_writeLetter 173 = .ok (.if_icmp .lt 11, 3) := by decide +kernel
theorem dX12_writeLetter_176 : decode cX12_writeLetter 176 = .ok (.iload_n 3, 1) := by decide +kernel
theorem dX12_writeLetter_177 : decode cX12_writeLetter 177 = .ok (.bipush 10, 2) := by decide +kernel
theorem dX12_writeLetter_179 : decode cX12_writeLetter 179 = .ok (.imul, 1) := by decide +kernel
theorem dX12_writeLetter_180 : decode cX12_writeLetter 180 = .ok (.istore_n 3, 1) := by decide +kernel
theorem dX12_writeLetter_181 : decode cX12_writeLetter 181 = .ok (.goto (-13), 3) := by decide +kernel
theorem dX12_writeLetter_184 : decode cX12_writeLetter 184 = .ok (.iload_n 3, 1) := by decide +kernel
theorem dX12_writeLetter_185 : decode cX12_writeLetter 185 = .ok (.ifCond .le 24, 3) := by decide +kernel
theorem dX12_writeLetter_188 : decode cX12_writeLetter 188 = .ok (.aload_n 0, 1) := by decide +kernel
theorem dX12_writeLetter_189 : decode cX12_writeLetter 189 = .ok (.bipush 48, 2) := by decide +kernel
theorem dX12_writeLetter_191 : decode cX12_writeLetter 191 = .ok (.iload_n 2, 1) := by decide +kernel
theorem dX12_writeLetter_192 : decode cX12_writeLetter 192 = .ok (.iload_n 3, 1) := by decide +kernel
theorem dX12_writeLetter_193 : decode cX12_writeLetter 193 = .ok (.idiv, 1) := by decide +kernel
theorem dX12_writeLetter_194 : decode cX12_writeLetter 194 = .ok (.bipush 10, 2) := by decide +kernel
theorem dX12_writeLetter_196 : decode cX12_writeLetter 196 = .ok (.irem, 1) := by decide +kernel
theorem dX12_writeLetter_197 : decode cX12_writeLetter 197 = .ok (.iadd, 1) := by decide +kernel
theorem dX12_writeLetter_198 : decode cX12_writeLetter 198 = .ok (.invokevirtual 94, 3) := by decide +kernel
theorem dX12_writeLetter_201 : decode cX12_writeLetter 201 = .ok (.iload_n 3, 1) := by decide +kernel
theorem dX12_writeLetter_202 : decode cX12_writeLetter 202 = .ok (.bipush 10, 2) := by decide +kernel
theorem dX12_writeLetter_204 : decode cX12_writeLetter 204 = .ok (.idiv, 1) := by decide +kernel
theorem dX12_writeLetter_205 : decode cX12_writeLetter 205 = .ok (.istore_n 3, 1) := by decide +kernel
theorem dX12_writeLetter_206 : decode cX12_writeLetter 206 = .ok (.goto (-22), 3) := by decide +kernel
theorem dX12_writeLetter_209 : decode cX12_writeLetter 209 = .ok (.aload_n 0, 1) := by decide +kernel
theorem dX12_writeLetter_210 : decode cX12_writeLetter 210 = .ok (.bipush 59, 2) := by decide +kernel
theorem dX12_writeLetter_212 : decode cX12_writeLetter 212 = .ok (.invokevirtual 94, 3) := by decide +kernel
theorem dX12_writeLetter_215 : decode cX12_writeLetter 215 = .ok (.goto 29, 3) := by decide +kernel
theorem dX12_writeLetter_218 : decode cX12_writeLetter 218 = .ok (.aload_n 0, 1) := by decide +kernel
theorem dX12_writeLetter_219 : decode cX12_writeLetter 219 = .ok (.getfield 23, 3) := by decide +kernel
theorem dX12_writeLetter_222 : decode cX12_writeLetter 222 = .ok (.ldc 88, 2) := by decide +kernel
theorem dX12_writeLetter_224 : decode cX12_writeLetter 224 = .ok (.iload_n 1, 1) := by decide +kernel
theorem dX12_writeLetter_225 : decode cX12_writeLetter 225 = .ok (.iconst 4, 1) := by decide +kernel
theorem dX12_writeLetter_226 : decode cX12_writeLetter 226 = .ok (.isub, 1) := by decide +kernel
theorem dX12_writeLetter_227 : decode cX12_writeLetter 227 = .ok (.imul, 1) := by decide +kernel
theorem dX12_writeLetter_228 : decode cX12_writeLetter 228 = .ok (.iload_n 2, 1) := by decide +kernel
theorem dX12_writeLetter_229 : decode cX12_writeLetter 229 = .ok (.iadd, 1) := by decide +kernel
theorem dX12_writeLetter_230 : decode cX12_writeLetter 230 = .ok (.saload, 1) := by decide +kernel
theorem dX12_writeLetter_231 : decode cX12_writeLetter 231 = .ok (.istore_n 3, 1) := by decide +kernel
theorem dX12_writeLetter_232 : decode cX12_writeLetter 232 = .ok (.iload_n 3, 1) := by decide +kernel
theorem dX12_writeLetter_233 : decode cX12_writeLetter 233 = .ok (.iconst (-1), 1) := by decide +kernel
theorem dX12_writeLetter_234 : decode cX12_writeLetter 234 = .ok (.if_icmp .ne 5, 3) := by decide +kernel
theorem dX12_writeLetter_237 : decode cX12_writeLetter 237 = .ok (.iconst 0, 1) := by decide +kernel
theorem dX12_writeLetter_238 : decode cX12_writeLetter 238 = .ok (.ireturn, 1) := by decide +kernel
theorem dX12_writeLetter_239 : decode cX12_writeLetter 239 = .ok (.aload_n 0, 1) := by decide +kernel
theorem dX12_writeLetter_240 : decode cX12_writeLetter 240 = .ok (.iload_n 3, 1) := by decide +kernel
theorem dX12_writeLetter_241 : decode cX12_writeLetter 241 = .ok (.invokevirtual 94, 3) := by decide +kernel
theorem dX12_writeLetter_244 : decode cX12_writeLetter 244 = .ok (.iconst 1, 1) := by decide +kernel
theorem dX12_writeLetter_245 : decode cX12_writeLetter 245 = .ok (.ireturn, 1) := by decide +kernel
set_option maxRecDepth 20000 in
theorem ggX12_write_X12_writeLetter : GoodIn wsX12_write wsX12_writeLetter := goodIn_r _ [7, 8, 9, 10, 11, 12, 6, 13, 14, 1, 15, 16, 17, 18, 19, 20, 21, 22, 23, 24, 25, 26, 27, 28, 29, 30, 31, 32, 33, 34, 35, 36, 37, 38, 39, 40, 41, 42, 43, 44, 45, 46, 47, 48, 49, 50, 51, 52, 53, 54] (by decide +kernel) (by decide +kernel)
set_option maxRecDepth 20000 in
theorem gX12_write_X12_writeLetter : GoodIn wsX12_write (wsV RX12 98 RX12 yX12_writeLetter wsX12_writeLetter) := goodIn_app (goodIn_of _ (by decide +kernel)) ggX12_write_X12_writeLetter
theorem dX12_write_0 : decode cX12_write 0 = .ok (.aload_n 0, 1) := by decide +kernel
theorem dX12_write_1 : decode cX12_write 1 = .ok (.iconst 0, 1) := by decide +kernel
theorem dX12_write_2 : decode cX12_write 2 = .ok (.putfield 91, 3) := by decide +kernel
theorem dX12_write_5 : decode cX12_write 5 = .ok (.iconst 0, 1) := by decide +kernel
theorem dX12_write_6 : decode cX12_write 6 = .ok (.istore 4, 2) := by decide +kernel
theorem dX12_write_8 : decode cX12_write 8 = .ok (.iload 4, 2) := by decide +kernel
theorem dX12_write_10 : decode cX12_write 10 = .ok (.iload_n 3, 1) := by decide +kernel
theorem dX12_write_11 : decode cX12_write 11 = .ok (.if_icmp .ge 29, 3) := by decide +kernel
theorem dX12_write_14 : decode cX12_write 14 = .ok (.aload_n 0, 1) := by decide +kernel
theorem dX12_write_15 : decode cX12_write 15 = .ok (.iload_n 1, 1) := by decide +kernel
theorem dX12_write_16 : decode cX12_write 16 = .ok (.aload_n 2, 1) := by decide +kernel
theorem dX12_write_17 : decode cX12_write 17 = .ok (.iload 4, 2) := by decide +kernel
theorem dX12_write_19 : decode cX12_write 19 = .ok (.iaload, 1) := by decide +kernel
theorem dX12_write_20 : decode cX12_write 20 = .ok (.invokevirtual 98, 3) := by decide +kernel
theorem dX12_write_23 : decode cX12_write 23 = .ok (.ifCond .ne 11, 3) := by decide +kernel
theorem dX12_write_26 : decode cX12_write 26 = .ok (.aload_n 0, 1) := by decide +kernel
theorem dX12_write_27 : decode cX12_write 27 = .ok (.iload 4, 2) := by decide +kernel
theorem dX12_write_29 : decode cX12_write 29 = .ok (.putfield 102, 3) := by decide +kernel
theorem dX12_write_32 : decode cX12_write 32 = .ok (.iconst 0, 1) := by decide +kernel
theorem dX12_write_33 : decode cX12_write 33 = .ok (.ireturn, 1) := by decide +kernel
theorem dX12_write_34 : decode cX12_write 34 = .ok (.iinc 4 1, 3) := by decide +kernel
theorem dX12_write_37 : decode cX12_write 37 = .ok (.goto (-29), 3) := by decide +kernel
theorem dX12_write_40 : decode cX12_write 40 = .ok (.iconst 1, 1) := by decide +kernel
theorem dX12_write_41 : decode cX12_write 41 = .ok (.ireturn, 1) := by decide +kernel
theorem dX12_byteAt_0 : decode cX12_byteAt 0 = .ok (.iload_n 1, 1) := by decide +kernel
theorem dX12_byteAt_1 : decode cX12_byteAt 1 = .ok (.aload_n 0, 1) := by decide +kernel
theorem dX12_byteAt_2 : decode cX12_byteAt 2 = .ok (.getfield 91, 3) := by decide +kernel
theorem dX12_byteAt_5 : decode cX12_byteAt 5 = .ok (.if_icmp .ge 12, 3) := by decide +kernel
theorem dX12_byteAt_8 : decode cX12_byteAt 8 = .ok (.aload_n 0, 1) := by decide +kernel
theorem dX12_byteAt_9 : decode cX12_byteAt 9 = .ok (.getfield 58, 3) := by decide +kernel
theorem dX12_byteAt_12 : decode cX12_byteAt 12 = .ok (.iload_n 1, 1) := by decide +kernel
theorem dX12_byteAt_13 : decode cX12_byteAt 13 = .ok (.iaload, 1) := by decide +kernel
theorem dX12_byteAt_14 : decode cX12_byteAt 14 = .ok (.goto 4, 3) := by decide +kernel
theorem dX12_byteAt_17 : decode cX12_byteAt 17 = .ok (.iconst (-1), 1) := by decide +kernel
theorem dX12_byteAt_18 : decode cX12_byteAt 18 = .ok (.ireturn, 1) := by decide +kernel
theorem dX12_goesOn_0 : decode cX12_goesOn 0 = .ok (.iload_n 0, 1) := by decide +kernel
theorem dX12_goesOn_1 : decode cX12_goesOn 1 = .ok (.sipush 128, 3) := by decide +kernel
theorem dX12_goesOn_4 : decode cX12_goesOn 4 = .ok (.if_icmp .lt 14, 3) := by decide +kernel
theorem dX12_goesOn_7 : decode cX12_goesOn 7 = .ok (.iload_n 0, 1) := by decide +kernel
theorem dX12_goesOn_8 : decode cX12_goesOn 8 = .ok (.sipush 192, 3) := by decide +kernel
theorem dX12_goesOn_11 : decode cX12_goesOn 11 = .ok (.if_icmp .ge 7, 3) := by decide +kernel
theorem dX12_goesOn_14 : decode cX12_goesOn 14 = .ok (.iconst 1, 1) := by decide +kernel
theorem dX12_goesOn_15 : decode cX12_goesOn 15 = .ok (.goto 4, 3) := by decide +kernel
theorem dX12_goesOn_18 : decode cX12_goesOn 18 = .ok (.iconst 0, 1) := by decide +kernel
theorem dX12_goesOn_19 : decode cX12_goesOn 19 = .ok (.ireturn, 1) := by decide +kernel
set_option maxRecDepth 20000 in
theorem ggX12_readAt_X12_byteAt : GoodIn wsX12_readAt wsX12_byteAt := goodIn_r _ [8, 9, 1, 19, 20, 21, 22, 23, 24, 25, 26, 27, 28, 29, 30, 31, 32, 33, 34, 35, 36, 37, 38, 39, 40, 41, 42, 43, 44, 45, 46, 47, 48, 49, 50, 51, 52, 53, 54, 55, 56, 57, 58] (by decide +kernel) (by decide +kernel)
set_option maxRecDepth 20000 in
theorem gX12_readAt_X12_byteAt : GoodIn wsX12_readAt (wsV RX12 108 RX12 yX12_byteAt wsX12_byteAt) := goodIn_app (goodIn_of _ (by decide +kernel)) ggX12_readAt_X12_byteAt
set_option maxRecDepth 20000 in
theorem ggX12_readAt_X12_goesOn : GoodIn wsX12_readAt wsX12_goesOn := goodIn_r _ [12] (by decide +kernel) (by decide +kernel)
set_option maxRecDepth 20000 in
theorem gX12_readAt_X12_goesOn : GoodIn wsX12_readAt (va_wsS RX12 112 yX12_goesOn wsX12_goesOn) := goodIn_app (goodIn_of _ (by decide +kernel)) ggX12_readAt_X12_goesOn
set_option maxRecDepth 20000 in
theorem ggX12_readAt_X12_isLetter : GoodIn wsX12_readAt wsX12_isLetter := goodIn_r _ [15, 16, 17, 18] (by decide +kernel) (by decide +kernel)
set_option maxRecDepth 20000 in
theorem gX12_readAt_X12_isLetter : GoodIn wsX12_readAt (va_wsS RX12 116 yX12_isLetter wsX12_isLetter) := goodIn_app (goodIn_of _ (by decide +kernel)) ggX12_readAt_X12_isLetter
theorem dX12_readAt_0 : decode cX12_readAt 0 = .ok (.aload_n 0, 1) := by decide +kernel
theorem dX12_readAt_1 : decode cX12_readAt 1 = .ok (.getfield 58, 3) := by decide +kernel
theorem dX12_readAt_4 : decode cX12_readAt 4 = .ok (.iload_n 2, 1) := by decide +kernel
theorem dX12_readAt_5 : decode cX12_readAt 5 = .ok (.iaload, 1) := by decide +kernel
theorem dX12_readAt_6 : decode cX12_readAt 6 = .ok (.istore_n 3, 1) := by decide +kernel
theorem dX12_readAt_7 : decode cX12_readAt 7 = .ok (.aload_n 0, 1) := by decide +kernel
theorem dX12_readAt_8 : decode cX12_readAt 8 = .ok (.iload_n 3, 1) := by decide +kernel
theorem dX12_readAt_9 : decode cX12_readAt 9 = .ok (.putfield 105, 3) := by decide +kernel
theorem dX12_readAt_12 : decode cX12_readAt 12 = .ok (.iload_n 1, 1) := by decide +kernel
theorem dX12_readAt_13 : decode cX12_readAt 13 = .ok (.iconst 2, 1) := by decide +kernel
theorem dX12_readAt_14 : decode cX12_readAt 14 = .ok (.if_icmp .ge 25, 3) := by decide +kernel
theorem dX12_readAt_17 : decode cX12_readAt 17 = .ok (.iload_n 3, 1) := by decide +kernel
theorem dX12_readAt_18 : decode cX12_readAt 18 = .ok (.iload_n 1, 1) := by decide +kernel
theorem dX12_readAt_19 : decode cX12_readAt 19 = .ok (.ifCond .ne 8, 3) := by decide +kernel
theorem dX12_readAt_22 : decode cX12_readAt 22 = .ok (.bipush 127, 2) := by decide +kernel
theorem dX12_readAt_24 : decode cX12_readAt 24 = .ok (.goto 6, 3) := by decide +kernel
theorem dX12_readAt_27 : decode cX12_readAt 27 = .ok (.sipush 255, 3) := by decide +kernel
theorem dX12_readAt_30 : decode cX12_readAt 30 = .ok (.if_icmp .le 7, 3) := by decide +kernel
theorem dX12_readAt_33 : decode cX12_readAt 33 = .ok (.iconst 0, 1) := by decide +kernel
theorem dX12_readAt_34 : decode cX12_readAt 34 = .ok (.goto 4, 3) := by decide +kernel
theorem dX12_readAt_37 : decode cX12_readAt 37 = .ok (.iconst 1, 1) := by decide +kernel
theorem dX12_readAt_38 : decode cX12_readAt 38 = .ok (.ireturn, 1) := by decide +kernel
theorem dX12_readAt_39 : decode cX12_readAt 39 = .ok (.iload_n 1, 1) := by decide +kernel
theorem dX12_readAt_40 : decode cX12_readAt 40 = .ok (.iconst 3, 1) := by decide +kernel
theorem dX12_readAt_41 : decode cX12_readAt 41 = .ok (.if_icmp .le 35, 3) := by decide +kernel
theorem dX12_readAt_44 : decode cX12_readAt 44 = .ok (.aload_n 0, 1) := by decide +kernel
theorem dX12_readAt_45 : decode cX12_readAt 45 = .ok (.aload_n 0, 1) := by decide +kernel
theorem dX12_readAt_46 : decode cX12_readAt 46 = .ok (.getfield 19, 3) := by decide +kernel
theorem dX12_readAt_49 : decode cX12_readAt 49 = .ok (.sipush 256, 3) := by decide +kernel
theorem dX12_readAt_52 : decode cX12_readAt 52 = .ok (.iload_n 1, 1) := by decide +kernel
theorem dX12_readAt_53 : decode cX12_readAt 53 = .ok (.iconst 4, 1) := by decide +kernel
theorem dX12_readAt_54 : decode cX12_readAt 54 = .ok (.isub, 1) := by decide +kernel
theorem dX12_readAt_55 : decode cX12_readAt 55 = .ok (.imul, 1) := by decide +kernel
theorem dX12_readAt_56 : decode cX12_readAt 56 = .ok (.iload_n 3, 1) := by decide +kernel
theorem dX12_readAt_57 : decode cX12_readAt 57 = .ok (.iadd, 1) := by decide +kernel
theorem dX12_readAt_58 : decode cX12_readAt 58 = .ok (.iaload, 1) := by decide +kernel
theorem dX12_readAt_59 : decode cX12_readAt 59 = .ok (.putfield 105, 3) := by decide +kernel
theorem dX12_readAt_62 : decode cX12_readAt 62 = .ok (.aload_n 0, 1) := by decide +kernel
theorem dX12_readAt_63 : decode cX12_readAt 63 = .ok (.getfield 105, 3) := by decide +kernel
theorem dX12_readAt_66 : decode cX12_readAt 66 = .ok (.iconst (-1), 1) := by decide +kernel
theorem dX12_readAt_67 : decode cX12_readAt 67 = .ok (.if_icmp .ne 7, 3) := by decide +kernel
theorem dX12_readAt_70 : decode cX12_readAt 70 = .ok (.iconst 0, 1) := by decide +kernel
theorem dX12_readAt_71 : decode cX12_readAt 71 = .ok (.goto 4, 3) := by decide +kernel
theorem dX12_readAt_74 : decode cX12_readAt 74 = .ok (.iconst 1, 1) := by decide +kernel
theorem dX12_readAt_75 : decode cX12_readAt 75 = .ok (.ireturn, 1) := by decide +kernel
theorem dX12_readAt_76 : decode cX12_readAt 76 = .ok (.iload_n 3, 1) := by decide +kernel
theorem dX12_readAt_77 : decode cX12_readAt 77 = .ok (.bipush 127, 2) := by decide +kernel
theorem dX12_readAt_79 : decode cX12_readAt 79 = .ok (.if_icmp .le 10, 3) := by decide +kernel
theorem dX12_readAt_82 : decode cX12_readAt 82 = .ok (.iload_n 1, 1) := by decide +kernel
theorem dX12_readAt_83 : decode cX12_readAt 83 = .ok (.iconst 3, 1) := by decide +kernel
theorem dX12_readAt_84 : decode cX12_readAt 84 = .ok (.if_icmp .ne 5, 3) := by decide +kernel
theorem dX12_readAt_87 : decode cX12_readAt 87 = .ok (.iconst 0, 1) := by decide +kernel
theorem dX12_readAt_88 : decode cX12_readAt 88 = .ok (.ireturn, 1) := by decide +kernel
theorem dX12_readAt_89 : decode cX12_readAt 89 = .ok (.iload_n 3, 1) := by decide +kernel
theorem dX12_readAt_90 : decode cX12_readAt 90 = .ok (.sipush 128, 3) := by decide +kernel
theorem dX12_readAt_93 : decode cX12_readAt 93 = .ok (.if_icmp .ge 16, 3) := by decide +kernel
theorem dX12_readAt_96 : decode cX12_readAt 96 = .ok (.iload_n 1, 1) := by decide +kernel
theorem dX12_readAt_97 : decode cX12_readAt 97 = .ok (.iconst 2, 1) := by decide +kernel
theorem dX12_readAt_98 : decode cX12_readAt 98 = .ok (.if_icmp .eq 9, 3) := by decide +kernel
theorem dX12_readAt_101 : decode cX12_readAt 101 = .ok (.iload_n 3, 1) := by decide +kernel
theorem dX12_readAt_102 : decode cX12_readAt 102 = .ok (.bipush 38, 2) := by decide +kernel
theorem dX12_readAt_104 : decode cX12_readAt 104 = .ok (.if_icmp .eq 5, 3) := by decide +kernel
theorem dX12_readAt_107 : decode cX12_readAt 107 = .ok (.iconst 1, 1) := by decide +kernel
theorem dX12_readAt_108 : decode cX12_readAt 108 = .ok (.ireturn, 1) := by decide +kernel
theorem dX12_readAt_109 : decode cX12_readAt 109 = .ok (.iload_n 1, 1) := by decide +kernel
theorem dX12_readAt_110 : decode cX12_readAt 110 = .ok (.iconst 2, 1) := by decide +kernel
theorem dX12_readAt_111 : decode cX12_readAt 111 = .ok (.if_icmp .ne 153, 3) := by decide +kernel
theorem dX12_readAt_114 : decode cX12_readAt 114 = .ok (.aload_n 0, 1) := by decide +kernel
theorem dX12_readAt_115 : decode cX12_readAt 115 = .ok (.iload_n 2, 1) := by decide +kernel
theorem dX12_readAt_116 : decode cX12_readAt 116 = .ok (.iconst 1, 1) := by decide +kernel
theorem dX12_readAt_117 : decode cX12_readAt 117 = .ok (.iadd, 1) := by decide +kernel
theorem dX12_readAt_118 : decode cX12_readAt 118 = .ok (.invokevirtual 108, 3) := by decide +kernel
theorem dX12_readAt_121 : decode cX12_readAt 121 = .ok (.istore 4, 2) := by decide +kernel
theorem dX12_readAt_123 : decode cX12_readAt 123 = .ok (.iload_n 3, 1) := by decide +kernel
theorem dX12_readAt_124 : decode cX12_readAt 124 = .ok (.sipush 192, 3) := by decide +kernel
theorem dX12_readAt_127 : decode cX12_readAt 127 = .ok (.if_icmp .lt 18, 3) := by decide +kernel
theorem dX12_readAt_130 : decode cX12_readAt 130 = .ok (.iload_n 3, 1) := by decide +kernel
theorem dX12_readAt_131 : decode cX12_readAt 131 = .ok (.sipush 239, 3) := by decide +kernel
theorem dX12_readAt_134 : decode cX12_readAt 134 = .ok (.if_icmp .gt 11, 3) := by decide +kernel
theorem dX12_readAt_137 : decode cX12_readAt 137 = .ok (.iload 4, 2) := by decide +kernel
theorem dX12_readAt_139 : decode cX12_readAt 139 = .ok (.invokestatic 112, 3) := by decide +kernel
theorem dX12_readAt_142 : decode cX12_readAt 142 = .ok (.ifCond .ne 5, 3) := by decide +kernel
theorem dX12_readAt_145 : decode cX12_readAt 145 = .ok (.iconst 0, 1) := by decide +kernel
theorem dX12_readAt_146 : decode cX12_readAt 146 = .ok (.ireturn, 1) := by decide +kernel
theorem dX12_readAt_147 : decode cX12_readAt 147 = .ok (.iload_n 3, 1) := by decide +kernel
theorem dX12_readAt_148 : decode cX12_readAt 148 = .ok (.sipush 224, 3) := by decide +kernel
theorem dX12_readAt_151 : decode cX12_readAt 151 = .ok (.if_icmp .ge 38, 3) := by decide +kernel
theorem dX12_readAt_154 : decode cX12_readAt 154 = .ok (.aload_n 0, 1) := by decide +kernel
theorem dX12_readAt_155 : decode cX12_readAt 155 = .ok (.iload_n 3, 1) := by decide +kernel
theorem dX12_readAt_156 : decode cX12_readAt 156 = .ok (.sipush 192, 3) := by decide +kernel
theorem dX12_readAt_159 : decode cX12_readAt 159 = .ok (.isub, 1) := by decide +kernel
theorem dX12_readAt_160 : decode cX12_readAt 160 = .ok (.bipush 64, 2) := by decide +kernel
theorem dX12_readAt_162 : decode cX12_readAt 162 = .ok (.imul, 1) := by decide +kernel
theorem dX12_readAt_163 : decode cX12_readAt 163 = .ok (.iload 4, 2) := by decide +kernel
theorem dX12_readAt_165 : decode cX12_readAt 165 = .ok (.iadd, 1) := by decide +kernel
theorem dX12_readAt_166 : decode cX12_readAt 166 = .ok (.sipush 128, 3) := by decide +kernel
theorem dX12_readAt_169 : decode cX12_readAt 169 = .ok (.isub, 1) := by decide +kernel
theorem dX12_readAt_170 : decode cX12_readAt 170 = .ok (.putfield 105, 3) := by decide +kernel
theorem dX12_readAt_173 : decode cX12_readAt 173 = .ok (.aload_n 0, 1) := by decide +kernel
theorem dX12_readAt_174 : decode cX12_readAt 174 = .ok (.getfield 105, 3) := by decide +kernel
theorem dX12_readAt_177 : decode cX12_readAt 177 = .ok (.sipush 128, 3) := by decide +kernel
theorem dX12_readAt_180 : decode cX12_readAt 180 = .ok (.if_icmp .ge 7, 3) := by decide +kernel
theorem dX12_readAt_183 : decode cX12_readAt 183 = .ok (.iconst 0, 1) := by decide +kernel
theorem dX12_readAt_184 : decode cX12_readAt 184 = .ok (.goto 4, 3) := by decide +kernel
theorem dX12_readAt_187 : decode cX12_readAt 187 = .ok (.iconst 2, 1) := by decide +kernel
theorem dX12_readAt_188 : decode cX12_readAt 188 = .ok (.ireturn, 1) := by decide +kernel
theorem dX12_readAt_189 : decode cX12_readAt 189 = .ok (.aload_n 0, 1) := by decide +kernel
theorem dX12_readAt_190 : decode cX12_readAt 190 = .ok (.iload_n 2, 1) := by decide +kernel
theorem dX12_readAt_191 : decode cX12_readAt 191 = .ok (.iconst 2, 1) := by decide +kernel
theorem dX12_readAt_192 : decode cX12_readAt 192 = .ok (.iadd, 1) := by decide +kernel
theorem dX12_readAt_193 : decode cX12_readAt 193 = .ok (.invokevirtual 108, 3) := by decide +kernel
theorem dX12_readAt_196 : decode cX12_readAt 196 = .ok (.istore 5, 2) := by decide +kernel
theorem dX12_readAt_198 : decode cX12_readAt 198 = .ok (.iload 5, 2) := by decide +kernel
theorem dX12_readAt_200 : decode cX12_readAt 200 = .ok (.invokestatic 112, 3) := by decide +kernel
theorem dX12_readAt_203 : decode cX12_readAt 203 = .ok (.ifCond .ne 5, 3) := by decide +kernel
theorem dX12_readAt_206 : decode cX12_readAt 206 = .ok (.iconst 0, 1) := by decide +kernel
theorem dX12_readAt_207 : decode cX12_readAt 207 = .ok (.ireturn, 1) := by decide +kernel
theorem dX12_readAt_208 : decode cX12_readAt 208 = .ok (.aload_n 0, 1) := by decide +kernel
theorem dX12_readAt_209 : decode cX12_readAt 209 = .ok (.iload_n 3, 1) := by decide +kernel
theorem dX12_readAt_210 : decode cX12_readAt 210 = .ok (.sipush 224, 3) := by decide +kernel
theorem dX12_readAt_213 : decode cX12_readAt 213 = .ok (.isub, 1) := by decide +kernel
theorem dX12_readAt_214 : decode cX12_readAt 214 = .ok (.sipush 4096, 3) := by decide +kernel
theorem dX12_readAt_217 : decode cX12_readAt 217 = .ok (.imul, 1) := by decide +kernel
theorem dX12_readAt_218 : decode cX12_readAt 218 = .ok (.iload 4, 2) := by decide +kernel
theorem dX12_readAt_220 : decode cX12_readAt 220 = .ok (.sipush 128, 3) := by decide +kernel
theorem dX12_readAt_223 : decode cX12_readAt 223 = .ok (.isub, 1) := by decide +kernel
theorem dX12_readAt_224 : decode cX12_readAt 224 = .ok (.bipush 64, 2) := by decide +kernel
theorem dX12_readAt_226 : decode cX12_readAt 226 = .ok (.imul, 1) := by decide +kernel
theorem dX12_readAt_227 : decode cX12_readAt 227 = .ok (.iadd, 1) := by decide +kernel
theorem dX12_readAt_228 : decode cX12_readAt 228 = .ok (.iload 5, 2) := by decide +kernel
theorem dX12_readAt_230 : decode cX12_readAt 230 = .ok (.iadd, 1) := by decide +kernel
theorem dX12_readAt_231 : decode cX12_readAt 231 = .ok (.sipush 128, 3) := by decide +kernel
theorem dX12_readAt_234 : decode cX12_readAt 234 = .ok (.isub, 1) := by decide +kernel
theorem dX12_readAt_235 : decode cX12_readAt 235 = .ok (.putfield 105, 3) := by decide +kernel
theorem dX12_readAt_238 : decode cX12_readAt 238 = .ok (.aload_n 0, 1) := by decide +kernel
theorem dX12_readAt_239 : decode cX12_readAt 239 = .ok (.getfield 105, 3) := by decide +kernel
theorem dX12_readAt_242 : decode cX12_readAt 242 = .ok (.sipush 2048, 3) := by decide +kernel
theorem dX12_readAt_245 : decode cX12_readAt 245 = .ok (.if_icmp .lt 13, 3) := by decide +kernel
theorem dX12_readAt_248 : decode cX12_readAt 248 = .ok (.aload_n 0, 1) := by decide +kernel
theorem dX12_readAt_249 : decode cX12_readAt 249 = .ok (.getfield 105, 3) := by decide +kernel
theorem dX12_readAt_252 : decode cX12_readAt 252 = .ok (.invokestatic 116, 3) := by decide +kernel
theorem dX12_readAt_255 : decode cX12_readAt 255 = .ok (.ifCond .ne 7, 3) := by decide +kernel
theorem dX12_readAt_258 : decode cX12_readAt 258 = .ok (.iconst 0, 1) := by decide +kernel
theorem dX12_readAt_259 : decode cX12_readAt 259 = .ok (.goto 4, 3) := by decide +kernel
theorem dX12_readAt_262 : decode cX12_readAt 262 = .ok (.iconst 3, 1) := by decide +kernel
theorem dX12_readAt_263 : decode cX12_readAt 263 = .ok (.ireturn, 1) := by decide +kernel
theorem dX12_readAt_264 : decode cX12_readAt 264 = .ok (.aload_n 0, 1) := by decide +kernel
theorem dX12_readAt_265 : decode cX12_readAt 265 = .ok (.iload_n 2, 1) := by decide +kernel
theorem dX12_readAt_266 : decode cX12_readAt 266 = .ok (.iconst 1, 1) := by decide +kernel
theorem dX12_readAt_267 : decode cX12_readAt 267 = .ok (.iadd, 1) := by decide +kernel
theorem dX12_readAt_268 : decode cX12_readAt 268 = .ok (.invokevirtual 108, 3) := by decide +kernel
theorem dX12_readAt_271 : decode cX12_readAt 271 = .ok (.bipush 35, 2) := by decide +kernel
theorem dX12_readAt_273 : decode cX12_readAt 273 = .ok (.if_icmp .eq 5, 3) := by decide +kernel
theorem dX12_readAt_276 : decode cX12_readAt 276 = .ok (.iconst 0, 1) := by decide +kernel
theorem dX12_readAt_277 : decode cX12_readAt 277 = .ok (.ireturn, 1) := by decide +kernel
theorem dX12_readAt_278 : decode cX12_readAt 278 = .ok (.iload_n 2, 1) := by decide +kernel
theorem dX12_readAt_279 : decode cX12_readAt 279 = .ok (.iconst 2, 1) := by decide +kernel
theorem dX12_readAt_280 : decode cX12_readAt 280 = .ok (.iadd, 1) := by decide +kernel
theorem dX12_readAt_281 : decode cX12_readAt 281 = .ok (.istore 4, 2) := by decide +kernel
theorem dX12_readAt_283 : decode cX12_readAt 283 = .ok (.iconst 0, 1) := by decide +kernel
theorem dX12_readAt_284 : decode cX12_readAt 284 = .ok (.istore 5, 2) := by decide +kernel
theorem dX12_readAt_286 : decode cX12_readAt 286 = .ok (.aload_n 0, 1) := by decide +kernel
theorem dX12_readAt_287 : decode cX12_readAt 287 = .ok (.iload 4, 2) := by decide +kernel
theorem dX12_readAt_289 : decode cX12_readAt 289 = .ok (.invokevirtual 108, 3) := by decide +kernel
theorem dX12_readAt_292 : decode cX12_readAt 292 = .ok (.bipush 48, 2) := by decide +kernel
theorem dX12_readAt_294 : decode cX12_readAt 294 = .ok (.if_icmp .lt 62, 3) := by decide +kernel
theorem dX12_readAt_297 : decode cX12_readAt 297 = .ok (.aload_n 0, 1) := by decide +kernel
theorem dX12_readAt_298 : decode cX12_readAt 298 = .ok (.iload 4, 2) := by decide +kernel
theorem dX12_readAt_300 : decode cX12_readAt 300 = .ok (.invokevirtual 108, 3) := by decide +kernel
theorem dX12_readAt_303 : decode cX12_readAt 303 = .ok (.bipush 57, 2) := by decide +kernel
theorem dX12_readAt_305 : decode cX12_readAt 305 = .ok (.if_icmp .gt 51, 3) := by decide +kernel
theorem dX12_readAt_308 : decode cX12_readAt 308 = .ok (.iload 4, 2) := by decide +kernel
theorem dX12_readAt_310 : decode cX12_readAt 310 = .ok (.iload_n 2, 1) := by decide +kernel
theorem dX12_readAt_311 : decode cX12_readAt 311 = .ok (.isub, 1) := by decide +kernel
theorem dX12_readAt_312 : decode cX12_readAt 312 = .ok (.bipush 8, 2) := by decide +kernel
theorem dX12_readAt_314 : decode cX12_readAt 314 = .ok (.if_icmp .ge 42, 3) := by decide +kernel
theorem dX12_readAt_317 : decode cX12_readAt 317 = .ok (.iload 5, 2) := by decide +kernel
theorem dX12_readAt_319 : decode cX12_readAt 319 = .ok (.ifCond .ne 13, 3) := by decide +kernel
theorem dX12_readAt_322 : decode cX12_readAt 322 = .ok (.iload 4, 2) := by decide +kernel
theorem dX12_readAt_324 : decode cX12_readAt 324 = .ok (.iload_n 2, 1) := by decide +kernel
theorem dX12_readAt_325 : decode cX12_readAt 325 = .ok (.iconst 2, 1) := by decide +kernel
theorem dX12_readAt_326 : decode cX12_readAt 326 = .ok (.iadd, 1) := by decide +kernel
theorem dX12_readAt_327 : decode cX12_readAt 327 = .ok (.if_icmp .le 5, 3) := by decide +kernel
theorem dX12_readAt_330 : decode cX12_readAt 330 = .ok (.iconst 0, 1) := by decide +kernel
theorem dX12_readAt_331 : decode cX12_readAt 331 = .ok (.ireturn, 1) := by decide +kernel
theorem dX12_readAt_332 : decode cX12_readAt 332 = .ok (.bipush 10, 2) := by decide +kernel
theorem dX12_readAt_334 : decode cX12_readAt 334 = .ok (.iload 5, 2) := by decide +kernel
theorem dX12_readAt_336 : decode cX12_readAt 336 = .ok (.imul, 1) := by decide +kernel
theorem dX12_readAt_337 : decode cX12_readAt 337 = .ok (.aload_n 0, 1) := by decide +kernel
theorem dX12_readAt_338 : decode cX12_readAt 338 = .ok (.getfield 58, 3) := by decide +kernel
theorem dX12_readAt_341 : decode cX12_readAt 341 = .ok (.iload 4, 2) := by decide +kernel
theorem dX12_readAt_343 : decode cX12_readAt 343 = .ok (.iaload, 1) := by decide +kernel
theorem dX12_readAt_344 : decode cX12_readAt 344 = .ok (.iadd, 1) := by decide +kernel
theorem dX12_readAt_345 : decode cX12_readAt 345 = .ok (.bipush 48, 2) := by decide +kernel
theorem dX12_readAt_347 : decode cX12_readAt 347 = .ok (.isub, 1) := by decide +kernel
theorem dX12_readAt_348 : decode cX12_readAt 348 = .ok (.istore 5, 2) := by decide +kernel
theorem dX12_readAt_350 : decode cX12_readAt 350 = .ok (.iinc 4 1, 3) := by decide +kernel
theorem dX12_readAt_353 : decode cX12_readAt 353 = .ok (.goto (-67), 3) := by decide +kernel
theorem dX12_readAt_356 : decode cX12_readAt 356 = .ok (.aload_n 0, 1) := by decide +kernel
theorem dX12_readAt_357 : decode cX12_readAt 357 = .ok (.iload 5, 2) := by decide +kernel
theorem dX12_readAt_359 : decode cX12_readAt 359 = .ok (.putfield 105, 3) := by decide +kernel
theorem dX12_readAt_362 : decode cX12_readAt 362 = .ok (.iload 4, 2) := by decide +kernel
theorem dX12_readAt_364 : decode cX12_readAt 364 = .ok (.iload_n 2, 1) := by decide +kernel
theorem dX12_readAt_365 : decode cX12_readAt 365 = .ok (.iconst 2, 1) := by decide +kernel
theorem dX12_readAt_366 : decode cX12_readAt 366 = .ok (.iadd, 1) := by decide +kernel
theorem dX12_readAt_367 : decode cX12_readAt 367 = .ok (.if_icmp .le 40, 3) := by decide +kernel
theorem dX12_readAt_370 : decode cX12_readAt 370 = .ok (.aload_n 0, 1) := by decide +kernel
theorem dX12_readAt_371 : decode cX12_readAt 371 = .ok (.iload 4, 2) := by decide +kernel
theorem dX12_readAt_373 : decode cX12_readAt 373 = .ok (.invokevirtual 108, 3) := by decide +kernel
theorem dX12_readAt_376 : decode cX12_readAt 376 = .ok (.bipush 59, 2) := by decide +kernel
theorem dX12_readAt_378 : decode cX12_readAt 378 = .ok (.if_icmp .ne 29, 3) := by decide +kernel
theorem dX12_readAt_381 : decode cX12_readAt 381 = .ok (.iload 5, 2) := by decide +kernel
theorem dX12_readAt_383 : decode cX12_readAt 383 = .ok (.invokestatic 116, 3) := by decide +kernel
theorem dX12_readAt_386 : decode cX12_readAt 386 = .ok (.ifCond .eq 21, 3) := by decide +kernel
theorem dX12_readAt_389 : decode cX12_readAt 389 = .ok (.iload 5, 2) := by decide +kernel
theorem dX12_readAt_391 : decode cX12_readAt 391 = .ok (.bipush 38, 2) := by decide +kernel
theorem dX12_readAt_393 : decode cX12_readAt 393 = .ok (.if_icmp .eq 10, 3) := by decide +kernel
theorem dX12_readAt_396 : decode cX12_readAt 396 = .ok (.iload 5, 2) := by decide +kernel
theorem dX12_readAt_398 : decode cX12_readAt 398 = .ok (.bipush 127, 2) := by decide +kernel
theorem dX12_readAt_400 : decode cX12_readAt 400 = .ok (.if_icmp .le 7, 3) := by decide +kernel
theorem dX12_readAt_403 : decode cX12_readAt 403 = .ok (.iconst 1, 1) := by decide +kernel
theorem dX12_readAt_404 : decode cX12_readAt 404 = .ok (.goto 4, 3) := by decide +kernel
theorem dX12_readAt_407 : decode cX12_readAt 407 = .ok (.iconst 0, 1) := by decide +kernel
theorem dX12_readAt_408 : decode cX12_readAt 408 = .ok (.istore 6, 2) := by decide +kernel
theorem dX12_readAt_410 : decode cX12_readAt 410 = .ok (.iload 6, 2) := by decide +kernel
theorem dX12_readAt_412 : decode cX12_readAt 412 = .ok (.ifCond .eq 12, 3) := by decide +kernel
theorem dX12_readAt_415 : decode cX12_readAt 415 = .ok (.iload 4, 2) := by decide +kernel
theorem dX12_readAt_417 : decode cX12_readAt 417 = .ok (.iload_n 2, 1) := by decide +kernel
theorem dX12_readAt_418 : decode cX12_readAt 418 = .ok (.isub, 1) := by decide +kernel
theorem dX12_readAt_419 : decode cX12_readAt 419 = .ok (.iconst 1, 1) := by decide +kernel
theorem dX12_readAt_420 : decode cX12_readAt 420 = .ok (.iadd, 1) := by decide +kernel
theorem dX12_readAt_421 : decode cX12_readAt 421 = .ok (.goto 4, 3) := by decide +kernel
theorem dX12_readAt_424 : decode cX12_readAt 424 = .ok (.iconst 0, 1) := by decide +kernel
theorem dX12_readAt_425 : decode cX12_readAt 425 = .ok (.ireturn, 1) := by decide +kernel
set_option maxRecDepth 20000 in
theorem ggX12_read_X12_readAt : GoodIn wsX12_read wsX12_readAt := goodIn_r _ [11, 12, 6, 13, 14, 15, 16, 10, 17, 2, 18, 19, 20, 21, 22, 23, 24, 25, 26, 27, 28, 29, 30, 31, 32, 33, 34, 35, 36, 37, 38, 39, 40, 41, 42, 43, 44, 45, 46, 47, 48, 49, 50, 51, 52, 53, 54, 55, 56, 57, 58, 59, 60, 61, 62, 63, 64, 65, 66] (by decide +kernel) (by decide +kernel)
set_option maxRecDepth 20000 in
theorem gX12_read_X12_readAt : GoodIn wsX12_read (wsV RX12 122 RX12 yX12_readAt wsX12_readAt) := goodIn_app (goodIn_of _ (by decide +kernel)) ggX12_read_X12_readAt
theorem dX12_read_0 : decode cX12_read 0 = .ok (.aload_n 0, 1) := by decide +kernel
theorem dX12_read_1 : decode cX12_read 1 = .ok (.iconst 0, 1) := by decide +kernel
theorem dX12_read_2 : decode cX12_read 2 = .ok (.putfield 119, 3) := by decide +kernel
theorem dX12_read_5 : decode cX12_read 5 = .ok (.iconst 0, 1) := by decide +kernel
theorem dX12_read_6 : decode cX12_read 6 = .ok (.istore_n 3, 1) := by decide +kernel
theorem dX12_read_7 : decode cX12_read 7 = .ok (.iload_n 3, 1) := by decide +kernel
theorem dX12_read_8 : decode cX12_read 8 = .ok (.aload_n 0, 1) := by decide +kernel
theorem dX12_read_9 : decode cX12_read 9 = .ok (.getfield 91, 3) := by decide +kernel
theorem dX12_read_12 : decode cX12_read 12 = .ok (.if_icmp .ge 77, 3) := by decide +kernel
theorem dX12_read_15 : decode cX12_read 15 = .ok (.aload_n 0, 1) := by decide +kernel
theorem dX12_read_16 : decode cX12_read 16 = .ok (.iload_n 1, 1) := by decide +kernel
theorem dX12_read_17 : decode cX12_read 17 = .ok (.iload_n 3, 1) := by decide +kernel
theorem dX12_read_18 : decode cX12_read 18 = .ok (.invokevirtual 122, 3) := by decide +kernel
theorem dX12_read_21 : decode cX12_read 21 = .ok (.istore 4, 2) := by decide +kernel
theorem dX12_read_23 : decode cX12_read 23 = .ok (.iload 4, 2) := by decide +kernel
theorem dX12_read_25 : decode cX12_read 25 = .ok (.ifCond .ne 14, 3) := by decide +kernel
theorem dX12_read_28 : decode cX12_read 28 = .ok (.iload_n 2, 1) := by decide +kernel
theorem dX12_read_29 : decode cX12_read 29 = .ok (.ifCond .ne 10, 3) := by decide +kernel
theorem dX12_read_32 : decode cX12_read 32 = .ok (.aload_n 0, 1) := by decide +kernel
theorem dX12_read_33 : decode cX12_read 33 = .ok (.iload_n 3, 1) := by decide +kernel
theorem dX12_read_34 : decode cX12_read 34 = .ok (.putfield 102, 3) := by decide +kernel
theorem dX12_read_37 : decode cX12_read 37 = .ok (.iconst 0, 1) := by decide +kernel
theorem dX12_read_38 : decode cX12_read 38 = .ok (.ireturn, 1) := by decide +kernel
theorem dX12_read_39 : decode cX12_read 39 = .ok (.aload_n 0, 1) := by decide +kernel
theorem dX12_read_40 : decode cX12_read 40 = .ok (.getfield 61, 3) := by decide +kernel
theorem dX12_read_43 : decode cX12_read 43 = .ok (.aload_n 0, 1) := by decide +kernel
theorem dX12_read_44 : decode cX12_read 44 = .ok (.getfield 119, 3) := by decide +kernel
theorem dX12_read_47 : decode cX12_read 47 = .ok (.iload 4, 2) := by decide +kernel
theorem dX12_read_49 : decode cX12_read 49 = .ok (.ifCond .ne 8, 3) := by decide +kernel
theorem dX12_read_52 : decode cX12_read 52 = .ok (.ldc 126, 2) := by decide +kernel
theorem dX12_read_54 : decode cX12_read 54 = .ok (.goto 7, 3) := by decide +kernel
theorem dX12_read_57 : decode cX12_read 57 = .ok (.aload_n 0, 1) := by decide +kernel
theorem dX12_read_58 : decode cX12_read 58 = .ok (.getfield 105, 3) := by decide +kernel
theorem dX12_read_61 : decode cX12_read 61 = .ok (.iastore, 1) := by decide +kernel
theorem dX12_read_62 : decode cX12_read 62 = .ok (.aload_n 0, 1) := by decide +kernel
theorem dX12_read_63 : decode cX12_read 63 = .ok (.dup, 1) := by decide +kernel
theorem dX12_read_64 : decode cX12_read 64 = .ok (.getfield 119, 3) := by decide +kernel
theorem dX12_read_67 : decode cX12_read 67 = .ok (.iconst 1, 1) := by decide +kernel
theorem dX12_read_68 : decode cX12_read 68 = .ok (.iadd, 1) := by decide +kernel
theorem dX12_read_69 : decode cX12_read 69 = .ok (.putfield 119, 3) := by decide +kernel
theorem dX12_read_72 : decode cX12_read 72 = .ok (.iload_n 3, 1) := by decide +kernel
theorem dX12_read_73 : decode cX12_read 73 = .ok (.iload 4, 2) := by decide +kernel
theorem dX12_read_75 : decode cX12_read 75 = .ok (.ifCond .ne 7, 3) := by decide +kernel
theorem dX12_read_78 : decode cX12_read 78 = .ok (.iconst 1, 1) := by decide +kernel
theorem dX12_read_79 : decode cX12_read 79 = .ok (.goto 5, 3) := by decide +kernel
theorem dX12_read_82 : decode cX12_read 82 = .ok (.iload 4, 2) := by decide +kernel
theorem dX12_read_84 : decode cX12_read 84 = .ok (.iadd, 1) := by decide +kernel
theorem dX12_read_85 : decode cX12_read 85 = .ok (.istore_n 3, 1) := by decide +kernel
theorem dX12_read_86 : decode cX12_read 86 = .ok (.goto (-79), 3) := by decide +kernel
theorem dX12_read_89 : decode cX12_read 89 = .ok (.iconst 1, 1) := by decide +kernel
theorem dX12_read_90 : decode cX12_read 90 = .ok (.ireturn, 1) := by decide +kernel
set_option maxRecDepth 20000 in
theorem ggX12_does_X12_write : GoodIn wsX12_does wsX12_write := goodIn_r _ [8, 2, 1, 9, 10, 11, 7, 12, 13, 14, 15, 16, 17, 18, 19, 44, 45, 46, 47, 48, 49, 50, 51, 52, 53, 54, 55, 56, 57, 58, 59, 60, 61, 62, 63, 64, 65, 66, 67, 68, 69, 70, 71, 72, 73, 74, 75, 76, 77, 78, 79, 80, 81, 82, 83] (by decide +kernel) (by decide +kernel)
set_option maxRecDepth 20000 in
theorem gX12_does_X12_write : GoodIn wsX12_does (wsV RX12 127 RX12 yX12_write wsX12_write) := goodIn_app (goodIn_of _ (by decide +kernel)) ggX12_does_X12_write
set_option maxRecDepth 20000 in
theorem ggX12_does_X12_read : GoodIn wsX12_does wsX12_read := goodIn_r _ [23, 3, 2, 1, 24, 25, 26, 27, 28, 29, 7, 30, 19, 31, 32, 33, 34, 35, 36, 37, 38, 39, 40, 41, 14, 42, 43, 44, 45, 46, 47, 48, 49, 50, 51, 52, 53, 54, 55, 56, 57, 58, 59, 60, 61, 62, 63, 64, 65, 66, 67, 68, 69, 70, 71, 72, 73, 74, 75, 76, 77, 78, 79, 80, 81, 82, 83] (by decide +kernel) (by decide +kernel)
set_option maxRecDepth 20000 in
theorem gX12_does_X12_read : GoodIn wsX12_does (wsV RX12 131 RX12 yX12_read wsX12_read) := goodIn_app (goodIn_of _ (by decide +kernel)) ggX12_does_X12_read
theorem dX12_does_0 : decode cX12_does 0 = .ok (.aload_n 0, 1) := by decide +kernel
theorem dX12_does_1 : decode cX12_does 1 = .ok (.iconst (-1), 1) := by decide +kernel
theorem dX12_does_2 : decode cX12_does 2 = .ok (.putfield 102, 3) := by decide +kernel
theorem dX12_does_5 : decode cX12_does 5 = .ok (.aload_n 0, 1) := by decide +kernel
theorem dX12_does_6 : decode cX12_does 6 = .ok (.iload_n 1, 1) := by decide +kernel
theorem dX12_does_7 : decode cX12_does 7 = .ok (.aload_n 3, 1) := by decide +kernel
theorem dX12_does_8 : decode cX12_does 8 = .ok (.iload 4, 2) := by decide +kernel
theorem dX12_does_10 : decode cX12_does 10 = .ok (.invokevirtual 127, 3) := by decide +kernel
theorem dX12_does_13 : decode cX12_does 13 = .ok (.ifCond .ne 5, 3) := by decide +kernel
theorem dX12_does_16 : decode cX12_does 16 = .ok (.iconst 0, 1) := by decide +kernel
theorem dX12_does_17 : decode cX12_does 17 = .ok (.ireturn, 1) := by decide +kernel
theorem dX12_does_18 : decode cX12_does 18 = .ok (.aload_n 0, 1) := by decide +kernel
theorem dX12_does_19 : decode cX12_does 19 = .ok (.getfield 91, 3) := by decide +kernel
theorem dX12_does_22 : decode cX12_does 22 = .ok (.sipush 900, 3) := by decide +kernel
theorem dX12_does_25 : decode cX12_does 25 = .ok (.if_icmp .le 5, 3) := by decide +kernel
theorem dX12_does_28 : decode cX12_does 28 = .ok (.iconst 0, 1) := by decide +kernel
theorem dX12_does_29 : decode cX12_does 29 = .ok (.ireturn, 1) := by decide +kernel
theorem dX12_does_30 : decode cX12_does 30 = .ok (.aload_n 0, 1) := by decide +kernel
theorem dX12_does_31 : decode cX12_does 31 = .ok (.iload_n 2, 1) := by decide +kernel
theorem dX12_does_32 : decode cX12_does 32 = .ok (.iconst 0, 1) := by decide +kernel
theorem dX12_does_33 : decode cX12_does 33 = .ok (.invokevirtual 131, 3) := by decide +kernel
theorem dX12_does_36 : decode cX12_does 36 = .ok (.ifCond .ne 5, 3) := by decide +kernel
theorem dX12_does_39 : decode cX12_does 39 = .ok (.iconst 0, 1) := by decide +kernel
theorem dX12_does_40 : decode cX12_does 40 = .ok (.ireturn, 1) := by decide +kernel
theorem dX12_does_41 : decode cX12_does 41 = .ok (.aload_n 0, 1) := by decide +kernel
theorem dX12_does_42 : decode cX12_does 42 = .ok (.getfield 119, 3) := by decide +kernel
theorem dX12_does_45 : decode cX12_does 45 = .ok (.sipush 300, 3) := by decide +kernel
theorem dX12_does_48 : decode cX12_does 48 = .ok (.if_icmp .gt 7, 3) := by decide +kernel
theorem dX12_does_51 : decode cX12_does 51 = .ok (.iconst 1, 1) := by decide +kernel
theorem dX12_does_52 : decode cX12_does 52 = .ok (.goto 4, 3) := by decide +kernel
theorem dX12_does_55 : decode cX12_does 55 = .ok (.iconst 0, 1) := by decide +kernel
theorem dX12_does_56 : decode cX12_does 56 = .ok (.ireturn, 1) := by decide +kernel
set_option maxRecDepth 20000 in
theorem ggX12_undoes_X12_does : GoodIn wsX12_undoes wsX12_does := goodIn_r _ [11, 6, 12, 3, 13, 14, 15, 10, 16, 17, 18, 19, 20, 21, 22, 23, 24, 25, 26, 27, 28, 29, 30, 31, 5, 32, 33, 34, 35, 36, 37, 38, 39, 40, 41, 42, 43, 44, 45, 46, 47, 48, 49, 50, 51, 52, 53, 54, 55, 56, 57, 58, 59, 60, 61, 62, 63, 64, 65, 66, 67, 68, 69, 70, 71, 72, 73, 74, 75, 76, 77, 78, 79, 80, 81, 82, 83, 84, 85, 86, 87, 88, 89, 90] (by decide +kernel) (by decide +kernel)
set_option maxRecDepth 20000 in
theorem gX12_undoes_X12_does : GoodIn wsX12_undoes (wsV RX12 138 RX12 yX12_does wsX12_does) := goodIn_app (goodIn_of _ (by decide +kernel)) ggX12_undoes_X12_does
theorem dX12_undoes_0 : decode cX12_undoes 0 = .ok (.aload_n 0, 1) := by decide +kernel
theorem dX12_undoes_1 : decode cX12_undoes 1 = .ok (.iload_n 2, 1) := by decide +kernel
theorem dX12_undoes_2 : decode cX12_undoes 2 = .ok (.iload_n 1, 1) := by decide +kernel
theorem dX12_undoes_3 : decode cX12_undoes 3 = .ok (.aload_n 0, 1) := by decide +kernel
theorem dX12_undoes_4 : decode cX12_undoes 4 = .ok (.getfield 64, 3) := by decide +kernel
theorem dX12_undoes_7 : decode cX12_undoes 7 = .ok (.aload_n 0, 1) := by decide +kernel
theorem dX12_undoes_8 : decode cX12_undoes 8 = .ok (.getfield 135, 3) := by decide +kernel
theorem dX12_undoes_11 : decode cX12_undoes 11 = .ok (.invokevirtual 138, 3) := by decide +kernel
theorem dX12_undoes_14 : decode cX12_undoes 14 = .ok (.ifCond .ne 5, 3) := by decide +kernel
theorem dX12_undoes_17 : decode cX12_undoes 17 = .ok (.iconst 0, 1) := by decide +kernel
theorem dX12_undoes_18 : decode cX12_undoes 18 = .ok (.ireturn, 1) := by decide +kernel
theorem dX12_undoes_19 : decode cX12_undoes 19 = .ok (.aload_n 0, 1) := by decide +kernel
theorem dX12_undoes_20 : decode cX12_undoes 20 = .ok (.getfield 119, 3) := by decide +kernel
theorem dX12_undoes_23 : decode cX12_undoes 23 = .ok (.istore_n 3, 1) := by decide +kernel
theorem dX12_undoes_24 : decode cX12_undoes 24 = .ok (.iconst 0, 1) := by decide +kernel
theorem dX12_undoes_25 : decode cX12_undoes 25 = .ok (.istore 4, 2) := by decide +kernel
theorem dX12_undoes_27 : decode cX12_undoes 27 = .ok (.iload 4, 2) := by decide +kernel
theorem dX12_undoes_29 : decode cX12_undoes 29 = .ok (.iload_n 3, 1) := by decide +kernel
theorem dX12_undoes_30 : decode cX12_undoes 30 = .ok (.if_icmp .ge 23, 3) := by decide +kernel
theorem dX12_undoes_33 : decode cX12_undoes 33 = .ok (.aload_n 0, 1) := by decide +kernel
theorem dX12_undoes_34 : decode cX12_undoes 34 = .ok (.getfield 67, 3) := by decide +kernel
theorem dX12_undoes_37 : decode cX12_undoes 37 = .ok (.iload 4, 2) := by decide +kernel
theorem dX12_undoes_39 : decode cX12_undoes 39 = .ok (.aload_n 0, 1) := by decide +kernel
theorem dX12_undoes_40 : decode cX12_undoes 40 = .ok (.getfield 61, 3) := by decide +kernel
theorem dX12_undoes_43 : decode cX12_undoes 43 = .ok (.iload 4, 2) := by decide +kernel
theorem dX12_undoes_45 : decode cX12_undoes 45 = .ok (.iaload, 1) := by decide +kernel
theorem dX12_undoes_46 : decode cX12_undoes 46 = .ok (.iastore, 1) := by decide +kernel
theorem dX12_undoes_47 : decode cX12_undoes 47 = .ok (.iinc 4 1, 3) := by decide +kernel
theorem dX12_undoes_50 : decode cX12_undoes 50 = .ok (.goto (-23), 3) := by decide +kernel
theorem dX12_undoes_53 : decode cX12_undoes 53 = .ok (.aload_n 0, 1) := by decide +kernel
theorem dX12_undoes_54 : decode cX12_undoes 54 = .ok (.iload_n 1, 1) := by decide +kernel
theorem dX12_undoes_55 : decode cX12_undoes 55 = .ok (.iload_n 2, 1) := by decide +kernel
theorem dX12_undoes_56 : decode cX12_undoes 56 = .ok (.aload_n 0, 1) := by decide +kernel
theorem dX12_undoes_57 : decode cX12_undoes 57 = .ok (.getfield 67, 3) := by decide +kernel
theorem dX12_undoes_60 : decode cX12_undoes 60 = .ok (.iload_n 3, 1) := by decide +kernel
theorem dX12_undoes_61 : decode cX12_undoes 61 = .ok (.invokevirtual 138, 3) := by decide +kernel
theorem dX12_undoes_64 : decode cX12_undoes 64 = .ok (.ifCond .eq 18, 3) := by decide +kernel
theorem dX12_undoes_67 : decode cX12_undoes 67 = .ok (.aload_n 0, 1) := by decide +kernel
theorem dX12_undoes_68 : decode cX12_undoes 68 = .ok (.getfield 119, 3) := by decide +kernel
theorem dX12_undoes_71 : decode cX12_undoes 71 = .ok (.aload_n 0, 1) := by decide +kernel
theorem dX12_undoes_72 : decode cX12_undoes 72 = .ok (.getfield 135, 3) := by decide +kernel
theorem dX12_undoes_75 : decode cX12_undoes 75 = .ok (.if_icmp .ne 7, 3) := by decide +kernel
theorem dX12_undoes_78 : decode cX12_undoes 78 = .ok (.iconst 1, 1) := by decide +kernel
theorem dX12_undoes_79 : decode cX12_undoes 79 = .ok (.goto 4, 3) := by decide +kernel
theorem dX12_undoes_82 : decode cX12_undoes 82 = .ok (.iconst 0, 1) := by decide +kernel
theorem dX12_undoes_83 : decode cX12_undoes 83 = .ok (.istore 4, 2) := by decide +kernel
theorem dX12_undoes_85 : decode cX12_undoes 85 = .ok (.iconst 0, 1) := by decide +kernel
theorem dX12_undoes_86 : decode cX12_undoes 86 = .ok (.istore 5, 2) := by decide +kernel
theorem dX12_undoes_88 : decode cX12_undoes 88 = .ok (.iload 4, 2) := by decide +kernel
theorem dX12_undoes_90 : decode cX12_undoes 90 = .ok (.ifCond .eq 42, 3) := by decide +kernel
theorem dX12_undoes_93 : decode cX12_undoes 93 = .ok (.iload 5, 2) := by decide +kernel
theorem dX12_undoes_95 : decode cX12_undoes 95 = .ok (.aload_n 0, 1) := by decide +kernel
theorem dX12_undoes_96 : decode cX12_undoes 96 = .ok (.getfield 135, 3) := by decide +kernel
theorem dX12_undoes_99 : decode cX12_undoes 99 = .ok (.if_icmp .ge 33, 3) := by decide +kernel
theorem dX12_undoes_102 : decode cX12_undoes 102 = .ok (.aload_n 0, 1) := by decide +kernel
theorem dX12_undoes_103 : decode cX12_undoes 103 = .ok (.getfield 61, 3) := by decide +kernel
theorem dX12_undoes_106 : decode cX12_undoes 106 = .ok (.iload 5, 2) := by decide +kernel
theorem dX12_undoes_108 : decode cX12_undoes 108 = .ok (.iaload, 1) := by decide +kernel
theorem dX12_undoes_109 : decode cX12_undoes 109 = .ok (.aload_n 0, 1) := by decide +kernel
theorem dX12_undoes_110 : decode cX12_undoes 110 = .ok (.getfield 64, 3) := by decide +kernel
theorem dX12_undoes_113 : decode cX12_undoes 113 = .ok (.iload 5, 2) := by decide +kernel
theorem dX12_undoes_115 : decode cX12_undoes 115 = .ok (.iaload, 1) := by decide +kernel
theorem dX12_undoes_116 : decode cX12_undoes 116 = .ok (.if_icmp .ne 7, 3) := by decide +kernel
theorem dX12_undoes_119 : decode cX12_undoes 119 = .ok (.iconst 1, 1) := by decide +kernel
theorem dX12_undoes_120 : decode cX12_undoes 120 = .ok (.goto 4, 3) := by decide +kernel
theorem dX12_undoes_123 : decode cX12_undoes 123 = .ok (.iconst 0, 1) := by decide +kernel
theorem dX12_undoes_124 : decode cX12_undoes 124 = .ok (.istore 4, 2) := by decide +kernel
theorem dX12_undoes_126 : decode cX12_undoes 126 = .ok (.iinc 5 1, 3) := by decide +kernel
theorem dX12_undoes_129 : decode cX12_undoes 129 = .ok (.goto (-41), 3) := by decide +kernel
theorem dX12_undoes_132 : decode cX12_undoes 132 = .ok (.aload_n 0, 1) := by decide +kernel
theorem dX12_undoes_133 : decode cX12_undoes 133 = .ok (.iconst (-1), 1) := by decide +kernel
theorem dX12_undoes_134 : decode cX12_undoes 134 = .ok (.putfield 102, 3) := by decide +kernel
theorem dX12_undoes_137 : decode cX12_undoes 137 = .ok (.iload 4, 2) := by decide +kernel
theorem dX12_undoes_139 : decode cX12_undoes 139 = .ok (.ifCond .ne 5, 3) := by decide +kernel
theorem dX12_undoes_142 : decode cX12_undoes 142 = .ok (.iconst 0, 1) := by decide +kernel
theorem dX12_undoes_143 : decode cX12_undoes 143 = .ok (.ireturn, 1) := by decide +kernel
theorem dX12_undoes_144 : decode cX12_undoes 144 = .ok (.iconst 0, 1) := by decide +kernel
theorem dX12_undoes_145 : decode cX12_undoes 145 = .ok (.istore 5, 2) := by decide +kernel
theorem dX12_undoes_147 : decode cX12_undoes 147 = .ok (.iload 5, 2) := by decide +kernel
theorem dX12_undoes_149 : decode cX12_undoes 149 = .ok (.iload_n 3, 1) := by decide +kernel
theorem dX12_undoes_150 : decode cX12_undoes 150 = .ok (.if_icmp .ge 23, 3) := by decide +kernel
theorem dX12_undoes_153 : decode cX12_undoes 153 = .ok (.aload_n 0, 1) := by decide +kernel
theorem dX12_undoes_154 : decode cX12_undoes 154 = .ok (.getfield 64, 3) := by decide +kernel
theorem dX12_undoes_157 : decode cX12_undoes 157 = .ok (.iload 5, 2) := by decide +kernel
theorem dX12_undoes_159 : decode cX12_undoes 159 = .ok (.aload_n 0, 1) := by decide +kernel
theorem dX12_undoes_160 : decode cX12_undoes 160 = .ok (.getfield 67, 3) := by decide +kernel
theorem dX12_undoes_163 : decode cX12_undoes 163 = .ok (.iload 5, 2) := by decide +kernel
theorem dX12_undoes_165 : decode cX12_undoes 165 = .ok (.iaload, 1) := by decide +kernel
theorem dX12_undoes_166 : decode cX12_undoes 166 = .ok (.iastore, 1) := by decide +kernel
theorem dX12_undoes_167 : decode cX12_undoes 167 = .ok (.iinc 5 1, 3) := by decide +kernel
theorem dX12_undoes_170 : decode cX12_undoes 170 = .ok (.goto (-23), 3) := by decide +kernel
theorem dX12_undoes_173 : decode cX12_undoes 173 = .ok (.aload_n 0, 1) := by decide +kernel
theorem dX12_undoes_174 : decode cX12_undoes 174 = .ok (.iload_n 3, 1) := by decide +kernel
theorem dX12_undoes_175 : decode cX12_undoes 175 = .ok (.putfield 135, 3) := by decide +kernel
theorem dX12_undoes_178 : decode cX12_undoes 178 = .ok (.iconst 1, 1) := by decide +kernel
theorem dX12_undoes_179 : decode cX12_undoes 179 = .ok (.ireturn, 1) := by decide +kernel
theorem dX12_takeText_0 : decode cX12_takeText 0 = .ok (.aload_n 0, 1) := by decide +kernel
theorem dX12_takeText_1 : decode cX12_takeText 1 = .ok (.aload_n 0, 1) := by decide +kernel
theorem dX12_takeText_2 : decode cX12_takeText 2 = .ok (.getfield 13, 3) := by decide +kernel
theorem dX12_takeText_5 : decode cX12_takeText 5 = .ok (.iconst 0, 1) := by decide +kernel
theorem dX12_takeText_6 : decode cX12_takeText 6 = .ok (.iaload, 1) := by decide +kernel
theorem dX12_takeText_7 : decode cX12_takeText 7 = .ok (.putfield 135, 3) := by decide +kernel
theorem dX12_takeText_10 : decode cX12_takeText 10 = .ok (.iconst 0, 1) := by decide +kernel
theorem dX12_takeText_11 : decode cX12_takeText 11 = .ok (.istore_n 1, 1) := by decide +kernel
theorem dX12_takeText_12 : decode cX12_takeText 12 = .ok (.iload_n 1, 1) := by decide +kernel
theorem dX12_takeText_13 : decode cX12_takeText 13 = .ok (.aload_n 0, 1) := by decide +kernel
theorem dX12_takeText_14 : decode cX12_takeText 14 = .ok (.getfield 135, 3) := by decide +kernel
theorem dX12_takeText_17 : decode cX12_takeText 17 = .ok (.if_icmp .ge 21, 3) := by decide +kernel
theorem dX12_takeText_20 : decode cX12_takeText 20 = .ok (.aload_n 0, 1) := by decide +kernel
theorem dX12_takeText_21 : decode cX12_takeText 21 = .ok (.getfield 64, 3) := by decide +kernel
theorem dX12_takeText_24 : decode cX12_takeText 24 = .ok (.iload_n 1, 1) := by decide +kernel
theorem dX12_takeText_25 : decode cX12_takeText 25 = .ok (.aload_n 0, 1) := by decide +kernel
theorem dX12_takeText_26 : decode cX12_takeText 26 = .ok (.getfield 16, 3) := by decide +kernel
theorem dX12_takeText_29 : decode cX12_takeText 29 = .ok (.iload_n 1, 1) := by decide +kernel
theorem dX12_takeText_30 : decode cX12_takeText 30 = .ok (.iaload, 1) := by decide +kernel
theorem dX12_takeText_31 : decode cX12_takeText 31 = .ok (.iastore, 1) := by decide +kernel
theorem dX12_takeText_32 : decode cX12_takeText 32 = .ok (.iinc 1 1, 3) := by decide +kernel
theorem dX12_takeText_35 : decode cX12_takeText 35 = .ok (.goto (-23), 3) := by decide +kernel
theorem dX12_takeText_38 : decode cX12_takeText 38 = .ok (.return_, 1) := by decide +kernel
theorem dX12_become_0 : decode cX12_become 0 = .ok (.aload_n 0, 1) := by decide +kernel
theorem dX12_become_1 : decode cX12_become 1 = .ok (.getfield 142, 3) := by decide +kernel
theorem dX12_become_4 : decode cX12_become 4 = .ok (.bipush 20, 2) := by decide +kernel
theorem dX12_become_6 : decode cX12_become 6 = .ok (.if_icmp .ne 19, 3) := by decide +kernel
theorem dX12_become_9 : decode cX12_become 9 = .ok (.aload_n 0, 1) := by decide +kernel
theorem dX12_become_10 : decode cX12_become 10 = .ok (.aload_n 0, 1) := by decide +kernel
theorem dX12_become_11 : decode cX12_become 11 = .ok (.getfield 145, 3) := by decide +kernel
theorem dX12_become_14 : decode cX12_become 14 = .ok (.iconst 1, 1) := by decide +kernel
theorem dX12_become_15 : decode cX12_become 15 = .ok (.iadd, 1) := by decide +kernel
theorem dX12_become_16 : decode cX12_become 16 = .ok (.bipush 20, 2) := by decide +kernel
theorem dX12_become_18 : decode cX12_become 18 = .ok (.irem, 1) := by decide +kernel
theorem dX12_become_19 : decode cX12_become 19 = .ok (.putfield 145, 3) := by decide +kernel
theorem dX12_become_22 : decode cX12_become 22 = .ok (.goto 13, 3) := by decide +kernel
theorem dX12_become_25 : decode cX12_become 25 = .ok (.aload_n 0, 1) := by decide +kernel
theorem dX12_become_26 : decode cX12_become 26 = .ok (.dup, 1) := by decide +kernel
theorem dX12_become_27 : decode cX12_become 27 = .ok (.getfield 142, 3) := by decide +kernel
theorem dX12_become_30 : decode cX12_become 30 = .ok (.iconst 1, 1) := by decide +kernel
theorem dX12_become_31 : decode cX12_become 31 = .ok (.iadd, 1) := by decide +kernel
theorem dX12_become_32 : decode cX12_become 32 = .ok (.putfield 142, 3) := by decide +kernel
theorem dX12_become_35 : decode cX12_become 35 = .ok (.iconst 1, 1) := by decide +kernel
theorem dX12_become_36 : decode cX12_become 36 = .ok (.aload_n 0, 1) := by decide +kernel
theorem dX12_become_37 : decode cX12_become 37 = .ok (.getfield 145, 3) := by decide +kernel
theorem dX12_become_40 : decode cX12_become 40 = .ok (.aload_n 0, 1) := by decide +kernel
theorem dX12_become_41 : decode cX12_become 41 = .ok (.getfield 142, 3) := by decide +kernel
theorem dX12_become_44 : decode cX12_become 44 = .ok (.iadd, 1) := by decide +kernel
theorem dX12_become_45 : decode cX12_become 45 = .ok (.iconst 1, 1) := by decide +kernel
theorem dX12_become_46 : decode cX12_become 46 = .ok (.isub, 1) := by decide +kernel
theorem dX12_become_47 : decode cX12_become 47 = .ok (.bipush 20, 2) := by decide +kernel
theorem dX12_become_49 : decode cX12_become 49 = .ok (.irem, 1) := by decide +kernel
theorem dX12_become_50 : decode cX12_become 50 = .ok (.iadd, 1) := by decide +kernel
theorem dX12_become_51 : decode cX12_become 51 = .ok (.istore_n 3, 1) := by decide +kernel
theorem dX12_become_52 : decode cX12_become 52 = .ok (.aload_n 0, 1) := by decide +kernel
theorem dX12_become_53 : decode cX12_become 53 = .ok (.getfield 13, 3) := by decide +kernel
theorem dX12_become_56 : decode cX12_become 56 = .ok (.iload_n 3, 1) := by decide +kernel
theorem dX12_become_57 : decode cX12_become 57 = .ok (.aload_n 0, 1) := by decide +kernel
theorem dX12_become_58 : decode cX12_become 58 = .ok (.getfield 13, 3) := by decide +kernel
theorem dX12_become_61 : decode cX12_become 61 = .ok (.iconst 0, 1) := by decide +kernel
theorem dX12_become_62 : decode cX12_become 62 = .ok (.iaload, 1) := by decide +kernel
theorem dX12_become_63 : decode cX12_become 63 = .ok (.iastore, 1) := by decide +kernel
theorem dX12_become_64 : decode cX12_become 64 = .ok (.iconst 0, 1) := by decide +kernel
theorem dX12_become_65 : decode cX12_become 65 = .ok (.istore 4, 2) := by decide +kernel
theorem dX12_become_67 : decode cX12_become 67 = .ok (.iload 4, 2) := by decide +kernel
theorem dX12_become_69 : decode cX12_become 69 = .ok (.aload_n 0, 1) := by decide +kernel
theorem dX12_become_70 : decode cX12_become 70 = .ok (.getfield 13, 3) := by decide +kernel
theorem dX12_become_73 : decode cX12_become 73 = .ok (.iconst 0, 1) := by decide +kernel
theorem dX12_become_74 : decode cX12_become 74 = .ok (.iaload, 1) := by decide +kernel
theorem dX12_become_75 : decode cX12_become 75 = .ok (.if_icmp .ge 29, 3) := by decide +kernel
theorem dX12_become_78 : decode cX12_become 78 = .ok (.aload_n 0, 1) := by decide +kernel
theorem dX12_become_79 : decode cX12_become 79 = .ok (.getfield 16, 3) := by decide +kernel
theorem dX12_become_82 : decode cX12_become 82 = .ok (.sipush 300, 3) := by decide +kernel
theorem dX12_become_85 : decode cX12_become 85 = .ok (.iload_n 3, 1) := by decide +kernel
theorem dX12_become_86 : decode cX12_become 86 = .ok (.imul, 1) := by decide +kernel
theorem dX12_become_87 : decode cX12_become 87 = .ok (.iload 4, 2) := by decide +kernel
theorem dX12_become_89 : decode cX12_become 89 = .ok (.iadd, 1) := by decide +kernel
theorem dX12_become_90 : decode cX12_become 90 = .ok (.aload_n 0, 1) := by decide +kernel
theorem dX12_become_91 : decode cX12_become 91 = .ok (.getfield 16, 3) := by decide +kernel
theorem dX12_become_94 : decode cX12_become 94 = .ok (.iload 4, 2) := by decide +kernel
theorem dX12_become_96 : decode cX12_become 96 = .ok (.iaload, 1) := by decide +kernel
theorem dX12_become_97 : decode cX12_become 97 = .ok (.iastore, 1) := by decide +kernel
theorem dX12_become_98 : decode cX12_become 98 = .ok (.iinc 4 1, 3) := by decide +kernel
theorem dX12_become_101 : decode cX12_become 101 = .ok (.goto (-34), 3) := by decide +kernel
theorem dX12_become_104 : decode cX12_become 104 = .ok (.aload_n 0, 1) := by decide +kernel
theorem dX12_become_105 : decode cX12_become 105 = .ok (.getfield 13, 3) := by decide +kernel
theorem dX12_become_108 : decode cX12_become 108 = .ok (.iconst 0, 1) := by decide +kernel
theorem dX12_become_109 : decode cX12_become 109 = .ok (.iload_n 2, 1) := by decide +kernel
theorem dX12_become_110 : decode cX12_become 110 = .ok (.iastore, 1) := by decide +kernel
theorem dX12_become_111 : decode cX12_become 111 = .ok (.iconst 0, 1) := by decide +kernel
theorem dX12_become_112 : decode cX12_become 112 = .ok (.istore 4, 2) := by decide +kernel
theorem dX12_become_114 : decode cX12_become 114 = .ok (.iload 4, 2) := by decide +kernel
theorem dX12_become_116 : decode cX12_become 116 = .ok (.iload_n 2, 1) := by decide +kernel
theorem dX12_become_117 : decode cX12_become 117 = .ok (.if_icmp .ge 20, 3) := by decide +kernel
theorem dX12_become_120 : decode cX12_become 120 = .ok (.aload_n 0, 1) := by decide +kernel
theorem dX12_become_121 : decode cX12_become 121 = .ok (.getfield 16, 3) := by decide +kernel
theorem dX12_become_124 : decode cX12_become 124 = .ok (.iload 4, 2) := by decide +kernel
theorem dX12_become_126 : decode cX12_become 126 = .ok (.aload_n 1, 1) := by decide +kernel
theorem dX12_become_127 : decode cX12_become 127 = .ok (.iload 4, 2) := by decide +kernel
theorem dX12_become_129 : decode cX12_become 129 = .ok (.iaload, 1) := by decide +kernel
theorem dX12_become_130 : decode cX12_become 130 = .ok (.iastore, 1) := by decide +kernel
theorem dX12_become_131 : decode cX12_become 131 = .ok (.iinc 4 1, 3) := by decide +kernel
theorem dX12_become_134 : decode cX12_become 134 = .ok (.goto (-20), 3) := by decide +kernel
theorem dX12_become_137 : decode cX12_become 137 = .ok (.aload_n 0, 1) := by decide +kernel
theorem dX12_become_138 : decode cX12_become 138 = .ok (.dup, 1) := by decide +kernel
theorem dX12_become_139 : decode cX12_become 139 = .ok (.getfield 148, 3) := by decide +kernel
theorem dX12_become_142 : decode cX12_become 142 = .ok (.iconst 1, 1) := by decide +kernel
theorem dX12_become_143 : decode cX12_become 143 = .ok (.iadd, 1) := by decide +kernel
theorem dX12_become_144 : decode cX12_become 144 = .ok (.putfield 148, 3) := by decide +kernel
theorem dX12_become_147 : decode cX12_become 147 = .ok (.return_, 1) := by decide +kernel
theorem dX12_feed_0 : decode cX12_feed 0 = .ok (.aload_n 0, 1) := by decide +kernel
theorem dX12_feed_1 : decode cX12_feed 1 = .ok (.iconst 0, 1) := by decide +kernel
theorem dX12_feed_2 : decode cX12_feed 2 = .ok (.putfield 85, 3) := by decide +kernel
theorem dX12_feed_5 : decode cX12_feed 5 = .ok (.aload_n 0, 1) := by decide +kernel
theorem dX12_feed_6 : decode cX12_feed 6 = .ok (.getfield 151, 3) := by decide +kernel
theorem dX12_feed_9 : decode cX12_feed 9 = .ok (.iconst 5, 1) := by decide +kernel
theorem dX12_feed_10 : decode cX12_feed 10 = .ok (.iadd, 1) := by decide +kernel
theorem dX12_feed_11 : decode cX12_feed 11 = .ok (.sipush 900, 3) := by decide +kernel
theorem dX12_feed_14 : decode cX12_feed 14 = .ok (.if_icmp .le 5, 3) := by decide +kernel
theorem dX12_feed_17 : decode cX12_feed 17 = .ok (.iconst (-1), 1) := by decide +kernel
theorem dX12_feed_18 : decode cX12_feed 18 = .ok (.ireturn, 1) := by decide +kernel
theorem dX12_feed_19 : decode cX12_feed 19 = .ok (.aload_n 0, 1) := by decide +kernel
theorem dX12_feed_20 : decode cX12_feed 20 = .ok (.getfield 9, 3) := by decide +kernel
theorem dX12_feed_23 : decode cX12_feed 23 = .ok (.aload_n 0, 1) := by decide +kernel
theorem dX12_feed_24 : decode cX12_feed 24 = .ok (.getfield 151, 3) := by decide +kernel
theorem dX12_feed_27 : decode cX12_feed 27 = .ok (.iload_n 1, 1) := by decide +kernel
theorem dX12_feed_28 : decode cX12_feed 28 = .ok (.iastore, 1) := by decide +kernel
theorem dX12_feed_29 : decode cX12_feed 29 = .ok (.aload_n 0, 1) := by decide +kernel
theorem dX12_feed_30 : decode cX12_feed 30 = .ok (.getfield 9, 3) := by decide +kernel
theorem dX12_feed_33 : decode cX12_feed 33 = .ok (.aload_n 0, 1) := by decide +kernel
theorem dX12_feed_34 : decode cX12_feed 34 = .ok (.getfield 151, 3) := by decide +kernel
theorem dX12_feed_37 : decode cX12_feed 37 = .ok (.iconst 1, 1) := by decide +kernel
theorem dX12_feed_38 : decode cX12_feed 38 = .ok (.iadd, 1) := by decide +kernel
theorem dX12_feed_39 : decode cX12_feed 39 = .ok (.iload_n 2, 1) := by decide +kernel
theorem dX12_feed_40 : decode cX12_feed 40 = .ok (.iastore, 1) := by decide +kernel
theorem dX12_feed_41 : decode cX12_feed 41 = .ok (.aload_n 0, 1) := by decide +kernel
theorem dX12_feed_42 : decode cX12_feed 42 = .ok (.getfield 9, 3) := by decide +kernel
theorem dX12_feed_45 : decode cX12_feed 45 = .ok (.aload_n 0, 1) := by decide +kernel
theorem dX12_feed_46 : decode cX12_feed 46 = .ok (.getfield 151, 3) := by decide +kernel
theorem dX12_feed_49 : decode cX12_feed 49 = .ok (.iconst 2, 1) := by decide +kernel
theorem dX12_feed_50 : decode cX12_feed 50 = .ok (.iadd, 1) := by decide +kernel
theorem dX12_feed_51 : decode cX12_feed 51 = .ok (.iload_n 3, 1) := by decide +kernel
theorem dX12_feed_52 : decode cX12_feed 52 = .ok (.iastore, 1) := by decide +kernel
theorem dX12_feed_53 : decode cX12_feed 53 = .ok (.aload_n 0, 1) := by decide +kernel
theorem dX12_feed_54 : decode cX12_feed 54 = .ok (.getfield 9, 3) := by decide +kernel
theorem dX12_feed_57 : decode cX12_feed 57 = .ok (.aload_n 0, 1) := by decide +kernel
theorem dX12_feed_58 : decode cX12_feed 58 = .ok (.getfield 151, 3) := by decide +kernel
theorem dX12_feed_61 : decode cX12_feed 61 = .ok (.iconst 3, 1) := by decide +kernel
theorem dX12_feed_62 : decode cX12_feed 62 = .ok (.iadd, 1) := by decide +kernel
theorem dX12_feed_63 : decode cX12_feed 63 = .ok (.iload 4, 2) := by decide +kernel
theorem dX12_feed_65 : decode cX12_feed 65 = .ok (.iastore, 1) := by decide +kernel
theorem dX12_feed_66 : decode cX12_feed 66 = .ok (.aload_n 0, 1) := by decide +kernel
theorem dX12_feed_67 : decode cX12_feed 67 = .ok (.getfield 9, 3) := by decide +kernel
theorem dX12_feed_70 : decode cX12_feed 70 = .ok (.aload_n 0, 1) := by decide +kernel
theorem dX12_feed_71 : decode cX12_feed 71 = .ok (.getfield 151, 3) := by decide +kernel
theorem dX12_feed_74 : decode cX12_feed 74 = .ok (.iconst 4, 1) := by decide +kernel
theorem dX12_feed_75 : decode cX12_feed 75 = .ok (.iadd, 1) := by decide +kernel
theorem dX12_feed_76 : decode cX12_feed 76 = .ok (.iload 5, 2) := by decide +kernel
theorem dX12_feed_78 : decode cX12_feed 78 = .ok (.iastore, 1) := by decide +kernel
theorem dX12_feed_79 : decode cX12_feed 79 = .ok (.aload_n 0, 1) := by decide +kernel
theorem dX12_feed_80 : decode cX12_feed 80 = .ok (.dup, 1) := by decide +kernel
theorem dX12_feed_81 : decode cX12_feed 81 = .ok (.getfield 151, 3) := by decide +kernel
theorem dX12_feed_84 : decode cX12_feed 84 = .ok (.iconst 5, 1) := by decide +kernel
theorem dX12_feed_85 : decode cX12_feed 85 = .ok (.iadd, 1) := by decide +kernel
theorem dX12_feed_86 : decode cX12_feed 86 = .ok (.putfield 151, 3) := by decide +kernel
theorem dX12_feed_89 : decode cX12_feed 89 = .ok (.aload_n 0, 1) := by decide +kernel
theorem dX12_feed_90 : decode cX12_feed 90 = .ok (.getfield 151, 3) := by decide +kernel
theorem dX12_feed_93 : decode cX12_feed 93 = .ok (.ireturn, 1) := by decide +kernel
theorem dX12_end_0 : decode cX12_end 0 = .ok (.aload_n 0, 1) := by decide +kernel
theorem dX12_end_1 : decode cX12_end 1 = .ok (.iconst 0, 1) := by decide +kernel
theorem dX12_end_2 : decode cX12_end 2 = .ok (.putfield 85, 3) := by decide +kernel
theorem dX12_end_5 : decode cX12_end 5 = .ok (.iload_n 1, 1) := by decide +kernel
theorem dX12_end_6 : decode cX12_end 6 = .ok (.ifCond .lt 11, 3) := by decide +kernel
theorem dX12_end_9 : decode cX12_end 9 = .ok (.iload_n 1, 1) := by decide +kernel
theorem dX12_end_10 : decode cX12_end 10 = .ok (.aload_n 0, 1) := by decide +kernel
theorem dX12_end_11 : decode cX12_end 11 = .ok (.getfield 151, 3) := by decide +kernel
theorem dX12_end_14 : decode cX12_end 14 = .ok (.if_icmp .le 5, 3) := by decide +kernel
theorem dX12_end_17 : decode cX12_end 17 = .ok (.iconst 0, 1) := by decide +kernel
theorem dX12_end_18 : decode cX12_end 18 = .ok (.ireturn, 1) := by decide +kernel
theorem dX12_end_19 : decode cX12_end 19 = .ok (.aload_n 0, 1) := by decide +kernel
theorem dX12_end_20 : decode cX12_end 20 = .ok (.iload_n 1, 1) := by decide +kernel
theorem dX12_end_21 : decode cX12_end 21 = .ok (.putfield 151, 3) := by decide +kernel
theorem dX12_end_24 : decode cX12_end 24 = .ok (.iconst 1, 1) := by decide +kernel
theorem dX12_end_25 : decode cX12_end 25 = .ok (.ireturn, 1) := by decide +kernel
set_option maxRecDepth 20000 in
theorem ggX12_text_X12_isLetter : GoodIn wsX12_text wsX12_isLetter := goodIn_r _ [8, 9, 10, 11] (by decide +kernel) (by decide +kernel)
set_option maxRecDepth 20000 in
theorem gX12_text_X12_isLetter : GoodIn wsX12_text (va_wsS RX12 116 yX12_isLetter wsX12_isLetter) := goodIn_app (goodIn_of _ (by decide +kernel)) ggX12_text_X12_isLetter
set_option maxRecDepth 20000 in
theorem ggX12_text_X12_become : GoodIn wsX12_text wsX12_become := goodIn_r _ [15, 16, 17, 18, 19, 20, 21, 22, 23, 24, 25, 26, 27, 28, 29, 30, 31, 32, 33, 34, 35, 36, 37, 38, 39, 40, 41, 42, 43, 44, 45, 46, 47, 48, 49, 50, 51, 52, 53, 54, 55, 56, 57, 58, 59, 60] (by decide +kernel) (by decide +kernel)
set_option maxRecDepth 20000 in
theorem gX12_text_X12_become : GoodIn wsX12_text (wsV RX12 154 RX12 yX12_become wsX12_become) := goodIn_app (goodIn_of _ (by decide +kernel)) ggX12_text_X12_become
theorem dX12_text_0 : decode cX12_text 0 = .ok (.aload_n 0, 1) := by decide +kernel
theorem dX12_text_1 : decode cX12_text 1 = .ok (.iconst 0, 1) := by decide +kernel
theorem dX12_text_2 : decode cX12_text 2 = .ok (.putfield 85, 3) := by decide +kernel
theorem dX12_text_5 : decode cX12_text 5 = .ok (.aload_n 0, 1) := by decide +kernel
theorem dX12_text_6 : decode cX12_text 6 = .ok (.iconst (-1), 1) := by decide +kernel
theorem dX12_text_7 : decode cX12_text 7 = .ok (.putfield 55, 3) := by decide +kernel
theorem dX12_text_10 : decode cX12_text 10 = .ok (.aload_n 0, 1) := by decide +kernel
theorem dX12_text_11 : decode cX12_text 11 = .ok (.getfield 151, 3) := by decide +kernel
theorem dX12_text_14 : decode cX12_text 14 = .ok (.istore_n 1, 1) := by decide +kernel
theorem dX12_text_15 : decode cX12_text 15 = .ok (.aload_n 0, 1) := by decide +kernel
theorem dX12_text_16 : decode cX12_text 16 = .ok (.iconst 0, 1) := by decide +kernel
theorem dX12_text_17 : decode cX12_text 17 = .ok (.putfield 151, 3) := by decide +kernel
theorem dX12_text_20 : decode cX12_text 20 = .ok (.iload_n 1, 1) := by decide +kernel
theorem dX12_text_21 : decode cX12_text 21 = .ok (.sipush 300, 3) := by decide +kernel
theorem dX12_text_24 : decode cX12_text 24 = .ok (.if_icmp .le 5, 3) := by decide +kernel
theorem dX12_text_27 : decode cX12_text 27 = .ok (.iconst (-1), 1) := by decide +kernel
theorem dX12_text_28 : decode cX12_text 28 = .ok (.ireturn, 1) := by decide +kernel
theorem dX12_text_29 : decode cX12_text 29 = .ok (.iconst 0, 1) := by decide +kernel
theorem dX12_text_30 : decode cX12_text 30 = .ok (.istore_n 2, 1) := by decide +kernel
theorem dX12_text_31 : decode cX12_text 31 = .ok (.iload_n 2, 1) := by decide +kernel
theorem dX12_text_32 : decode cX12_text 32 = .ok (.iload_n 1, 1) := by decide +kernel
theorem dX12_text_33 : decode cX12_text 33 = .ok (.if_icmp .ge 28, 3) := by decide +kernel
theorem dX12_text_36 : decode cX12_text 36 = .ok (.aload_n 0, 1) := by decide +kernel
theorem dX12_text_37 : decode cX12_text 37 = .ok (.getfield 9, 3) := by decide +kernel
theorem dX12_text_40 : decode cX12_text 40 = .ok (.iload_n 2, 1) := by decide +kernel
theorem dX12_text_41 : decode cX12_text 41 = .ok (.iaload, 1) := by decide +kernel
theorem dX12_text_42 : decode cX12_text 42 = .ok (.invokestatic 116, 3) := by decide +kernel
theorem dX12_text_45 : decode cX12_text 45 = .ok (.ifCond .ne 10, 3) := by decide +kernel
theorem dX12_text_48 : decode cX12_text 48 = .ok (.aload_n 0, 1) := by decide +kernel
theorem dX12_text_49 : decode cX12_text 49 = .ok (.iload_n 2, 1) := by decide +kernel
theorem dX12_text_50 : decode cX12_text 50 = .ok (.putfield 55, 3) := by decide +kernel
theorem dX12_text_53 : decode cX12_text 53 = .ok (.iconst (-1), 1) := by decide +kernel
theorem dX12_text_54 : decode cX12_text 54 = .ok (.ireturn, 1) := by decide +kernel
theorem dX12_text_55 : decode cX12_text 55 = .ok (.iinc 2 1, 3) := by decide +kernel
theorem dX12_text_58 : decode cX12_text 58 = .ok (.goto (-27), 3) := by decide +kernel
theorem dX12_text_61 : decode cX12_text 61 = .ok (.aload_n 0, 1) := by decide +kernel
theorem dX12_text_62 : decode cX12_text 62 = .ok (.aload_n 0, 1) := by decide +kernel
theorem dX12_text_63 : decode cX12_text 63 = .ok (.getfield 9, 3) := by decide +kernel
theorem dX12_text_66 : decode cX12_text 66 = .ok (.iload_n 1, 1) := by decide +kernel
theorem dX12_text_67 : decode cX12_text 67 = .ok (.invokevirtual 154, 3) := by decide +kernel
theorem dX12_text_70 : decode cX12_text 70 = .ok (.iload_n 1, 1) := by decide +kernel
theorem dX12_text_71 : decode cX12_text 71 = .ok (.ireturn, 1) := by decide +kernel
set_option maxRecDepth 20000 in
theorem ggX12_read__X12_isCode : GoodIn wsX12_read_ wsX12_isCode := goodIn_r _ [13] (by decide +kernel) (by decide +kernel)
set_option maxRecDepth 20000 in
theorem gX12_read__X12_isCode : GoodIn wsX12_read_ (va_wsS RX12 158 yX12_isCode wsX12_isCode) := goodIn_app (goodIn_of _ (by decide +kernel)) ggX12_read__X12_isCode
set_option maxRecDepth 20000 in
theorem ggX12_read__X12_read : GoodIn wsX12_read_ wsX12_read := goodIn_r _ [17, 8, 6, 7, 9, 18, 19, 20, 21, 22, 12, 23, 5, 24, 25, 26, 27, 28, 29, 30, 31, 32, 33, 34, 35, 36, 37, 47, 48, 49, 50, 51, 52, 53, 54, 55, 56, 57, 58, 59, 60, 61, 62, 63, 64, 65, 66, 67, 68, 69, 70, 71, 72, 73, 74, 75, 76, 77, 78, 79, 80, 81, 82, 83, 84, 85, 86] (by decide +kernel) (by decide +kernel)
set_option maxRecDepth 20000 in
theorem gX12_read__X12_read : GoodIn wsX12_read_ (wsV RX12 131 RX12 yX12_read wsX12_read) := goodIn_app (goodIn_of _ (by decide +kernel)) ggX12_read__X12_read
set_option maxRecDepth 20000 in
theorem ggX12_read__X12_become : GoodIn wsX12_read_ wsX12_become := goodIn_r _ [41, 42, 43, 44, 45, 46, 47, 48, 49, 50, 51, 52, 53, 54, 55, 56, 57, 58, 59, 60, 61, 62, 63, 64, 65, 66, 67, 68, 69, 70, 71, 72, 73, 74, 75, 76, 77, 78, 79, 80, 81, 82, 83, 84, 85, 86] (by decide +kernel) (by decide +kernel)
set_option maxRecDepth 20000 in
theorem gX12_read__X12_become : GoodIn wsX12_read_ (wsV RX12 154 RX12 yX12_become wsX12_become) := goodIn_app (goodIn_of _ (by decide +kernel)) ggX12_read__X12_become
theorem dX12_read__0 : decode cX12_read_ 0 = .ok (.aload_n 0, 1) := by decide +kernel
theorem dX12_read__1 : decode cX12_read_ 1 = .ok (.iconst 0, 1) := by decide +kernel
theorem dX12_read__2 : decode cX12_read_ 2 = .ok (.putfield 85, 3) := by decide +kernel
theorem dX12_read__5 : decode cX12_read_ 5 = .ok (.aload_n 0, 1) := by decide +kernel
theorem dX12_read__6 : decode cX12_read_ 6 = .ok (.iconst (-1), 1) := by decide +kernel
theorem dX12_read__7 : decode cX12_read_ 7 = .ok (.putfield 55, 3) := by decide +kernel
theorem dX12_read__10 : decode cX12_read_ 10 = .ok (.aload_n 0, 1) := by decide +kernel
theorem dX12_read__11 : decode cX12_read_ 11 = .ok (.getfield 151, 3) := by decide +kernel
theorem dX12_read__14 : decode cX12_read_ 14 = .ok (.istore_n 2, 1) := by decide +kernel
theorem dX12_read__15 : decode cX12_read_ 15 = .ok (.aload_n 0, 1) := by decide +kernel
theorem dX12_read__16 : decode cX12_read_ 16 = .ok (.iconst 0, 1) := by decide +kernel
theorem dX12_read__17 : decode cX12_read_ 17 = .ok (.putfield 151, 3) := by decide +kernel
theorem dX12_read__20 : decode cX12_read_ 20 = .ok (.iload_n 1, 1) := by decide +kernel
theorem dX12_read__21 : decode cX12_read_ 21 = .ok (.invokestatic 158, 3) := by decide +kernel
theorem dX12_read__24 : decode cX12_read_ 24 = .ok (.ifCond .ne 5, 3) := by decide +kernel
theorem dX12_read__27 : decode cX12_read_ 27 = .ok (.iconst (-1), 1) := by decide +kernel
theorem dX12_read__28 : decode cX12_read_ 28 = .ok (.ireturn, 1) := by decide +kernel
theorem dX12_read__29 : decode cX12_read_ 29 = .ok (.iconst 0, 1) := by decide +kernel
theorem dX12_read__30 : decode cX12_read_ 30 = .ok (.istore_n 3, 1) := by decide +kernel
theorem dX12_read__31 : decode cX12_read_ 31 = .ok (.iload_n 3, 1) := by decide +kernel
theorem dX12_read__32 : decode cX12_read_ 32 = .ok (.iload_n 2, 1) := by decide +kernel
theorem dX12_read__33 : decode cX12_read_ 33 = .ok (.if_icmp .ge 49, 3) := by decide +kernel
theorem dX12_read__36 : decode cX12_read_ 36 = .ok (.aload_n 0, 1) := by decide +kernel
theorem dX12_read__37 : decode cX12_read_ 37 = .ok (.getfield 9, 3) := by decide +kernel
theorem dX12_read__40 : decode cX12_read_ 40 = .ok (.iload_n 3, 1) := by decide +kernel
theorem dX12_read__41 : decode cX12_read_ 41 = .ok (.iaload, 1) := by decide +kernel
theorem dX12_read__42 : decode cX12_read_ 42 = .ok (.ifCond .lt 15, 3) := by decide +kernel
theorem dX12_read__45 : decode cX12_read_ 45 = .ok (.aload_n 0, 1) := by decide +kernel
theorem dX12_read__46 : decode cX12_read_ 46 = .ok (.getfield 9, 3) := by decide +kernel
theorem dX12_read__49 : decode cX12_read_ 49 = .ok (.iload_n 3, 1) := by decide +kernel
theorem dX12_read__50 : decode cX12_read_ 50 = .ok (.iaload, 1) := by decide +kernel
theorem dX12_read__51 : decode cX12_read_ 51 = .ok (.sipush 255, 3) := by decide +kernel
theorem dX12_read__54 : decode cX12_read_ 54 = .ok (.if_icmp .le 10, 3) := by decide +kernel
theorem dX12_read__57 : decode cX12_read_ 57 = .ok (.aload_n 0, 1) := by decide +kernel
theorem dX12_read__58 : decode cX12_read_ 58 = .ok (.iload_n 3, 1) := by decide +kernel
theorem dX12_read__59 : decode cX12_read_ 59 = .ok (.putfield 55, 3) := by decide +kernel
theorem dX12_read__62 : decode cX12_read_ 62 = .ok (.iconst (-1), 1) := by decide +kernel
theorem dX12_read__63 : decode cX12_read_ 63 = .ok (.ireturn, 1) := by decide +kernel
theorem dX12_read__64 : decode cX12_read_ 64 = .ok (.aload_n 0, 1) := by decide +kernel
theorem dX12_read__65 : decode cX12_read_ 65 = .ok (.getfield 58, 3) := by decide +kernel
theorem dX12_read__68 : decode cX12_read_ 68 = .ok (.iload_n 3, 1) := by decide +kernel
theorem dX12_read__69 : decode cX12_read_ 69 = .ok (.aload_n 0, 1) := by decide +kernel
theorem dX12_read__70 : decode cX12_read_ 70 = .ok (.getfield 9, 3) := by decide +kernel
theorem dX12_read__73 : decode cX12_read_ 73 = .ok (.iload_n 3, 1) := by decide +kernel
theorem dX12_read__74 : decode cX12_read_ 74 = .ok (.iaload, 1) := by decide +kernel
theorem dX12_read__75 : decode cX12_read_ 75 = .ok (.iastore, 1) := by decide +kernel
theorem dX12_read__76 : decode cX12_read_ 76 = .ok (.iinc 3 1, 3) := by decide +kernel
theorem dX12_read__79 : decode cX12_read_ 79 = .ok (.goto (-48), 3) := by decide +kernel
theorem dX12_read__82 : decode cX12_read_ 82 = .ok (.aload_n 0, 1) := by decide +kernel
theorem dX12_read__83 : decode cX12_read_ 83 = .ok (.iload_n 2, 1) := by decide +kernel
theorem dX12_read__84 : decode cX12_read_ 84 = .ok (.putfield 91, 3) := by decide +kernel
theorem dX12_read__87 : decode cX12_read_ 87 = .ok (.aload_n 0, 1) := by decide +kernel
theorem dX12_read__88 : decode cX12_read_ 88 = .ok (.iload_n 1, 1) := by decide +kernel
theorem dX12_read__89 : decode cX12_read_ 89 = .ok (.iconst 0, 1) := by decide +kernel
theorem dX12_read__90 : decode cX12_read_ 90 = .ok (.invokevirtual 131, 3) := by decide +kernel
theorem dX12_read__93 : decode cX12_read_ 93 = .ok (.ifCond .ne 13, 3) := by decide +kernel
theorem dX12_read__96 : decode cX12_read_ 96 = .ok (.aload_n 0, 1) := by decide +kernel
theorem dX12_read__97 : decode cX12_read_ 97 = .ok (.aload_n 0, 1) := by decide +kernel
theorem dX12_read__98 : decode cX12_read_ 98 = .ok (.getfield 102, 3) := by decide +kernel
theorem dX12_read__101 : decode cX12_read_ 101 = .ok (.putfield 55, 3) := by decide +kernel
theorem dX12_read__104 : decode cX12_read_ 104 = .ok (.iconst (-1), 1) := by decide +kernel
theorem dX12_read__105 : decode cX12_read_ 105 = .ok (.ireturn, 1) := by decide +kernel
theorem dX12_read__106 : decode cX12_read_ 106 = .ok (.aload_n 0, 1) := by decide +kernel
theorem dX12_read__107 : decode cX12_read_ 107 = .ok (.getfield 119, 3) := by decide +kernel
theorem dX12_read__110 : decode cX12_read_ 110 = .ok (.sipush 300, 3) := by decide +kernel
theorem dX12_read__113 : decode cX12_read_ 113 = .ok (.if_icmp .le 5, 3) := by decide +kernel
theorem dX12_read__116 : decode cX12_read_ 116 = .ok (.iconst (-1), 1) := by decide +kernel
theorem dX12_read__117 : decode cX12_read_ 117 = .ok (.ireturn, 1) := by decide +kernel
theorem dX12_read__118 : decode cX12_read_ 118 = .ok (.aload_n 0, 1) := by decide +kernel
theorem dX12_read__119 : decode cX12_read_ 119 = .ok (.aload_n 0, 1) := by decide +kernel
theorem dX12_read__120 : decode cX12_read_ 120 = .ok (.getfield 61, 3) := by decide +kernel
theorem dX12_read__123 : decode cX12_read_ 123 = .ok (.aload_n 0, 1) := by decide +kernel
theorem dX12_read__124 : decode cX12_read_ 124 = .ok (.getfield 119, 3) := by decide +kernel
theorem dX12_read__127 : decode cX12_read_ 127 = .ok (.invokevirtual 154, 3) := by decide +kernel
theorem dX12_read__130 : decode cX12_read_ 130 = .ok (.aload_n 0, 1) := by decide +kernel
theorem dX12_read__131 : decode cX12_read_ 131 = .ok (.getfield 119, 3) := by decide +kernel
theorem dX12_read__134 : decode cX12_read_ 134 = .ok (.ireturn, 1) := by decide +kernel
set_option maxRecDepth 20000 in
theorem ggX12_span_X12_isLetter : GoodIn wsX12_span wsX12_isLetter := goodIn_r _ [11, 5, 12, 13] (by decide +kernel) (by decide +kernel)
set_option maxRecDepth 20000 in
theorem gX12_span_X12_isLetter : GoodIn wsX12_span (va_wsS RX12 116 yX12_isLetter wsX12_isLetter) := goodIn_app (goodIn_of _ (by decide +kernel)) ggX12_span_X12_isLetter
theorem dX12_span_0 : decode cX12_span 0 = .ok (.aload_n 0, 1) := by decide +kernel
theorem dX12_span_1 : decode cX12_span 1 = .ok (.iconst 0, 1) := by decide +kernel
theorem dX12_span_2 : decode cX12_span 2 = .ok (.putfield 85, 3) := by decide +kernel
theorem dX12_span_5 : decode cX12_span 5 = .ok (.aload_n 0, 1) := by decide +kernel
theorem dX12_span_6 : decode cX12_span 6 = .ok (.iconst (-1), 1) := by decide +kernel
theorem dX12_span_7 : decode cX12_span 7 = .ok (.putfield 55, 3) := by decide +kernel
theorem dX12_span_10 : decode cX12_span 10 = .ok (.iload_n 1, 1) := by decide +kernel
theorem dX12_span_11 : decode cX12_span 11 = .ok (.iconst 4, 1) := by decide +kernel
theorem dX12_span_12 : decode cX12_span 12 = .ok (.if_icmp .lt 59, 3) := by decide +kernel
theorem dX12_span_15 : decode cX12_span 15 = .ok (.iload_n 1, 1) := by decide +kernel
theorem dX12_span_16 : decode cX12_span 16 = .ok (.iconst 5, 1) := by decide +kernel
theorem dX12_span_17 : decode cX12_span 17 = .ok (.if_icmp .gt 54, 3) := by decide +kernel
theorem dX12_span_20 : decode cX12_span 20 = .ok (.iload_n 2, 1) := by decide +kernel
theorem dX12_span_21 : decode cX12_span 21 = .ok (.ifCond .lt 50, 3) := by decide +kernel
theorem dX12_span_24 : decode cX12_span 24 = .ok (.iload_n 2, 1) := by decide +kernel
theorem dX12_span_25 : decode cX12_span 25 = .ok (.sipush 255, 3) := by decide +kernel
theorem dX12_span_28 : decode cX12_span 28 = .ok (.if_icmp .gt 43, 3) := by decide +kernel
theorem dX12_span_31 : decode cX12_span 31 = .ok (.iload_n 3, 1) := by decide +kernel
theorem dX12_span_32 : decode cX12_span 32 = .ok (.iconst 1, 1) := by decide +kernel
theorem dX12_span_33 : decode cX12_span 33 = .ok (.if_icmp .lt 38, 3) := by decide +kernel
theorem dX12_span_36 : decode cX12_span 36 = .ok (.iload_n 3, 1) := by decide +kernel
theorem dX12_span_37 : decode cX12_span 37 = .ok (.sipush 256, 3) := by decide +kernel
theorem dX12_span_40 : decode cX12_span 40 = .ok (.iload_n 2, 1) := by decide +kernel
theorem dX12_span_41 : decode cX12_span 41 = .ok (.isub, 1) := by decide +kernel
theorem dX12_span_42 : decode cX12_span 42 = .ok (.if_icmp .gt 29, 3) := by decide +kernel
theorem dX12_span_45 : decode cX12_span 45 = .ok (.iload 5, 2) := by decide +kernel
theorem dX12_span_47 : decode cX12_span 47 = .ok (.sipush (-255), 3) := by decide +kernel
theorem dX12_span_50 : decode cX12_span 50 = .ok (.if_icmp .lt 21, 3) := by decide +kernel
theorem dX12_span_53 : decode cX12_span 53 = .ok (.iload 5, 2) := by decide +kernel
theorem dX12_span_55 : decode cX12_span 55 = .ok (.sipush 255, 3) := by decide +kernel
theorem dX12_span_58 : decode cX12_span 58 = .ok (.if_icmp .gt 13, 3) := by decide +kernel
theorem dX12_span_61 : decode cX12_span 61 = .ok (.iload_n 3, 1) := by decide +kernel
theorem dX12_span_62 : decode cX12_span 62 = .ok (.iconst 1, 1) := by decide +kernel
theorem dX12_span_63 : decode cX12_span 63 = .ok (.if_icmp .le 10, 3) := by decide +kernel
theorem dX12_span_66 : decode cX12_span 66 = .ok (.iload 5, 2) := by decide +kernel
theorem dX12_span_68 : decode cX12_span 68 = .ok (.ifCond .ne 5, 3) := by decide +kernel
theorem dX12_span_71 : decode cX12_span 71 = .ok (.iconst (-1), 1) := by decide +kernel
theorem dX12_span_72 : decode cX12_span 72 = .ok (.ireturn, 1) := by decide +kernel
theorem dX12_span_73 : decode cX12_span 73 = .ok (.iload_n 1, 1) := by decide +kernel
theorem dX12_span_74 : decode cX12_span 74 = .ok (.iconst 4, 1) := by decide +kernel
theorem dX12_span_75 : decode cX12_span 75 = .ok (.isub, 1) := by decide +kernel
theorem dX12_span_76 : decode cX12_span 76 = .ok (.istore 6, 2) := by decide +kernel
theorem dX12_span_78 : decode cX12_span 78 = .ok (.iload 4, 2) := by decide +kernel
theorem dX12_span_80 : decode cX12_span 80 = .ok (.invokestatic 116, 3) := by decide +kernel
theorem dX12_span_83 : decode cX12_span 83 = .ok (.ifCond .ne 5, 3) := by decide +kernel
theorem dX12_span_86 : decode cX12_span 86 = .ok (.iconst (-1), 1) := by decide +kernel
theorem dX12_span_87 : decode cX12_span 87 = .ok (.ireturn, 1) := by decide +kernel
theorem dX12_span_88 : decode cX12_span 88 = .ok (.iconst 0, 1) := by decide +kernel
theorem dX12_span_89 : decode cX12_span 89 = .ok (.istore 7, 2) := by decide +kernel
theorem dX12_span_91 : decode cX12_span 91 = .ok (.iload 7, 2) := by decide +kernel
theorem dX12_span_93 : decode cX12_span 93 = .ok (.iload_n 3, 1) := by decide +kernel
theorem dX12_span_94 : decode cX12_span 94 = .ok (.if_icmp .ge 66, 3) := by decide +kernel
theorem dX12_span_97 : decode cX12_span 97 = .ok (.iload 4, 2) := by decide +kernel
theorem dX12_span_99 : decode cX12_span 99 = .ok (.iload 7, 2) := by decide +kernel
theorem dX12_span_101 : decode cX12_span 101 = .ok (.iload 5, 2) := by decide +kernel
theorem dX12_span_103 : decode cX12_span 103 = .ok (.imul, 1) := by decide +kernel
theorem dX12_span_104 : decode cX12_span 104 = .ok (.iadd, 1) := by decide +kernel
theorem dX12_span_105 : decode cX12_span 105 = .ok (.istore 8, 2) := by decide +kernel
theorem dX12_span_107 : decode cX12_span 107 = .ok (.iload 8, 2) := by decide +kernel
theorem dX12_span_109 : decode cX12_span 109 = .ok (.invokestatic 116, 3) := by decide +kernel
theorem dX12_span_112 : decode cX12_span 112 = .ok (.ifCond .eq 40, 3) := by decide +kernel
theorem dX12_span_115 : decode cX12_span 115 = .ok (.aload_n 0, 1) := by decide +kernel
theorem dX12_span_116 : decode cX12_span 116 = .ok (.getfield 19, 3) := by decide +kernel
theorem dX12_span_119 : decode cX12_span 119 = .ok (.sipush 256, 3) := by decide +kernel
theorem dX12_span_122 : decode cX12_span 122 = .ok (.iload 6, 2) := by decide +kernel
theorem dX12_span_124 : decode cX12_span 124 = .ok (.imul, 1) := by decide +kernel
theorem dX12_span_125 : decode cX12_span 125 = .ok (.iload_n 2, 1) := by decide +kernel
theorem dX12_span_126 : decode cX12_span 126 = .ok (.iadd, 1) := by decide +kernel
theorem dX12_span_127 : decode cX12_span 127 = .ok (.iload 7, 2) := by decide +kernel
theorem dX12_span_129 : decode cX12_span 129 = .ok (.iadd, 1) := by decide +kernel
theorem dX12_span_130 : decode cX12_span 130 = .ok (.iaload, 1) := by decide +kernel
theorem dX12_span_131 : decode cX12_span 131 = .ok (.iconst (-1), 1) := by decide +kernel
theorem dX12_span_132 : decode cX12_span 132 = .ok (.if_icmp .ne 20, 3) := by decide +kernel
theorem dX12_span_135 : decode cX12_span 135 = .ok (.aload_n 0, 1) := by decide +kernel
theorem dX12_span_136 : decode cX12_span 136 = .ok (.getfield 23, 3) := by decide +kernel
theorem dX12_span_139 : decode cX12_span 139 = .ok (.ldc 88, 2) := by decide +kernel
theorem dX12_span_141 : decode cX12_span 141 = .ok (.iload 6, 2) := by decide +kernel
theorem dX12_span_143 : decode cX12_span 143 = .ok (.imul, 1) := by decide +kernel
theorem dX12_span_144 : decode cX12_span 144 = .ok (.iload 8, 2) := by decide +kernel
theorem dX12_span_146 : decode cX12_span 146 = .ok (.iadd, 1) := by decide +kernel
theorem dX12_span_147 : decode cX12_span 147 = .ok (.saload, 1) := by decide +kernel
theorem dX12_span_148 : decode cX12_span 148 = .ok (.iconst (-1), 1) := by decide +kernel
theorem dX12_span_149 : decode cX12_span 149 = .ok (.if_icmp .eq 5, 3) := by decide +kernel
theorem dX12_span_152 : decode cX12_span 152 = .ok (.iconst (-1), 1) := by decide +kernel
theorem dX12_span_153 : decode cX12_span 153 = .ok (.ireturn, 1) := by decide +kernel
theorem dX12_span_154 : decode cX12_span 154 = .ok (.iinc 7 1, 3) := by decide +kernel
theorem dX12_span_157 : decode cX12_span 157 = .ok (.goto (-66), 3) := by decide +kernel
theorem dX12_span_160 : decode cX12_span 160 = .ok (.iconst 0, 1) := by decide +kernel
theorem dX12_span_161 : decode cX12_span 161 = .ok (.istore 7, 2) := by decide +kernel
theorem dX12_span_163 : decode cX12_span 163 = .ok (.iload 7, 2) := by decide +kernel
theorem dX12_span_165 : decode cX12_span 165 = .ok (.iload_n 3, 1) := by decide +kernel
theorem dX12_span_166 : decode cX12_span 166 = .ok (.if_icmp .ge 57, 3) := by decide +kernel
theorem dX12_span_169 : decode cX12_span 169 = .ok (.aload_n 0, 1) := by decide +kernel
theorem dX12_span_170 : decode cX12_span 170 = .ok (.getfield 19, 3) := by decide +kernel
theorem dX12_span_173 : decode cX12_span 173 = .ok (.sipush 256, 3) := by decide +kernel
theorem dX12_span_176 : decode cX12_span 176 = .ok (.iload 6, 2) := by decide +kernel
theorem dX12_span_178 : decode cX12_span 178 = .ok (.imul, 1) := by decide +kernel
theorem dX12_span_179 : decode cX12_span 179 = .ok (.iload_n 2, 1) := by decide +kernel
theorem dX12_span_180 : decode cX12_span 180 = .ok (.iadd, 1) := by decide +kernel
theorem dX12_span_181 : decode cX12_span 181 = .ok (.iload 7, 2) := by decide +kernel
theorem dX12_span_183 : decode cX12_span 183 = .ok (.iadd, 1) := by decide +kernel
theorem dX12_span_184 : decode cX12_span 184 = .ok (.iload 4, 2) := by decide +kernel
theorem dX12_span_186 : decode cX12_span 186 = .ok (.iload 7, 2) := by decide +kernel
theorem dX12_span_188 : decode cX12_span 188 = .ok (.iload 5, 2) := by decide +kernel
theorem dX12_span_190 : decode cX12_span 190 = .ok (.imul, 1) := by decide +kernel
theorem dX12_span_191 : decode cX12_span 191 = .ok (.iadd, 1) := by decide +kernel
theorem dX12_span_192 : decode cX12_span 192 = .ok (.iastore, 1) := by decide +kernel
theorem dX12_span_193 : decode cX12_span 193 = .ok (.aload_n 0, 1) := by decide +kernel
theorem dX12_span_194 : decode cX12_span 194 = .ok (.getfield 23, 3) := by decide +kernel
theorem dX12_span_197 : decode cX12_span 197 = .ok (.ldc 88, 2) := by decide +kernel
theorem dX12_span_199 : decode cX12_span 199 = .ok (.iload 6, 2) := by decide +kernel
theorem dX12_span_201 : decode cX12_span 201 = .ok (.imul, 1) := by decide +kernel
theorem dX12_span_202 : decode cX12_span 202 = .ok (.iload 4, 2) := by decide +kernel
theorem dX12_span_204 : decode cX12_span 204 = .ok (.iadd, 1) := by decide +kernel
theorem dX12_span_205 : decode cX12_span 205 = .ok (.iload 7, 2) := by decide +kernel
theorem dX12_span_207 : decode cX12_span 207 = .ok (.iload 5, 2) := by decide +kernel
theorem dX12_span_209 : decode cX12_span 209 = .ok (.imul, 1) := by decide +kernel
theorem dX12_span_210 : decode cX12_span 210 = .ok (.iadd, 1) := by decide +kernel
theorem dX12_span_211 : decode cX12_span 211 = .ok (.iload_n 2, 1) := by decide +kernel
theorem dX12_span_212 : decode cX12_span 212 = .ok (.iload 7, 2) := by decide +kernel
theorem dX12_span_214 : decode cX12_span 214 = .ok (.iadd, 1) := by decide +kernel
theorem dX12_span_215 : decode cX12_span 215 = .ok (.i2s, 1) := by decide +kernel
theorem dX12_span_216 : decode cX12_span 216 = .ok (.sastore, 1) := by decide +kernel
theorem dX12_span_217 : decode cX12_span 217 = .ok (.iinc 7 1, 3) := by decide +kernel
theorem dX12_span_220 : decode cX12_span 220 = .ok (.goto (-57), 3) := by decide +kernel
theorem dX12_span_223 : decode cX12_span 223 = .ok (.aload_n 0, 1) := by decide +kernel
theorem dX12_span_224 : decode cX12_span 224 = .ok (.getfield 27, 3) := by decide +kernel
theorem dX12_span_227 : decode cX12_span 227 = .ok (.iload 6, 2) := by decide +kernel
theorem dX12_span_229 : decode cX12_span 229 = .ok (.dup2, 1) := by decide +kernel
theorem dX12_span_230 : decode cX12_span 230 = .ok (.iaload, 1) := by decide +kernel
theorem dX12_span_231 : decode cX12_span 231 = .ok (.iload_n 3, 1) := by decide +kernel
theorem dX12_span_232 : decode cX12_span 232 = .ok (.iadd, 1) := by decide +kernel
theorem dX12_span_233 : decode cX12_span 233 = .ok (.iastore, 1) := by decide +kernel
theorem dX12_span_234 : decode cX12_span 234 = .ok (.aload_n 0, 1) := by decide +kernel
theorem dX12_span_235 : decode cX12_span 235 = .ok (.dup, 1) := by decide +kernel
theorem dX12_span_236 : decode cX12_span 236 = .ok (.getfield 148, 3) := by decide +kernel
theorem dX12_span_239 : decode cX12_span 239 = .ok (.iconst 1, 1) := by decide +kernel
theorem dX12_span_240 : decode cX12_span 240 = .ok (.iadd, 1) := by decide +kernel
theorem dX12_span_241 : decode cX12_span 241 = .ok (.putfield 148, 3) := by decide +kernel
theorem dX12_span_244 : decode cX12_span 244 = .ok (.aload_n 0, 1) := by decide +kernel
theorem dX12_span_245 : decode cX12_span 245 = .ok (.getfield 27, 3) := by decide +kernel
theorem dX12_span_248 : decode cX12_span 248 = .ok (.iload 6, 2) := by decide +kernel
theorem dX12_span_250 : decode cX12_span 250 = .ok (.iaload, 1) := by decide +kernel
theorem dX12_span_251 : decode cX12_span 251 = .ok (.ireturn, 1) := by decide +kernel
theorem dX12_blank_0 : decode cX12_blank 0 = .ok (.aload_n 0, 1) := by decide +kernel
theorem dX12_blank_1 : decode cX12_blank 1 = .ok (.iconst 0, 1) := by decide +kernel
theorem dX12_blank_2 : decode cX12_blank 2 = .ok (.putfield 85, 3) := by decide +kernel
theorem dX12_blank_5 : decode cX12_blank 5 = .ok (.iload_n 1, 1) := by decide +kernel
theorem dX12_blank_6 : decode cX12_blank 6 = .ok (.iconst 4, 1) := by decide +kernel
theorem dX12_blank_7 : decode cX12_blank 7 = .ok (.if_icmp .lt 8, 3) := by decide +kernel
theorem dX12_blank_10 : decode cX12_blank 10 = .ok (.iload_n 1, 1) := by decide +kernel
theorem dX12_blank_11 : decode cX12_blank 11 = .ok (.iconst 5, 1) := by decide +kernel
theorem dX12_blank_12 : decode cX12_blank 12 = .ok (.if_icmp .le 5, 3) := by decide +kernel
theorem dX12_blank_15 : decode cX12_blank 15 = .ok (.iconst 0, 1) := by decide +kernel
theorem dX12_blank_16 : decode cX12_blank 16 = .ok (.ireturn, 1) := by decide +kernel
theorem dX12_blank_17 : decode cX12_blank 17 = .ok (.iload_n 1, 1) := by decide +kernel
theorem dX12_blank_18 : decode cX12_blank 18 = .ok (.iconst 4, 1) := by decide +kernel
theorem dX12_blank_19 : decode cX12_blank 19 = .ok (.isub, 1) := by decide +kernel
theorem dX12_blank_20 : decode cX12_blank 20 = .ok (.istore_n 2, 1) := by decide +kernel
theorem dX12_blank_21 : decode cX12_blank 21 = .ok (.iconst 0, 1) := by decide +kernel
theorem dX12_blank_22 : decode cX12_blank 22 = .ok (.istore_n 3, 1) := by decide +kernel
theorem dX12_blank_23 : decode cX12_blank 23 = .ok (.iload_n 3, 1) := by decide +kernel
theorem dX12_blank_24 : decode cX12_blank 24 = .ok (.sipush 256, 3) := by decide +kernel
theorem dX12_blank_27 : decode cX12_blank 27 = .ok (.if_icmp .ge 22, 3) := by decide +kernel
theorem dX12_blank_30 : decode cX12_blank 30 = .ok (.aload_n 0, 1) := by decide +kernel
theorem dX12_blank_31 : decode cX12_blank 31 = .ok (.getfield 19, 3) := by decide +kernel
theorem dX12_blank_34 : decode cX12_blank 34 = .ok (.sipush 256, 3) := by decide +kernel
theorem dX12_blank_37 : decode cX12_blank 37 = .ok (.iload_n 2, 1) := by decide +kernel
theorem dX12_blank_38 : decode cX12_blank 38 = .ok (.imul, 1) := by decide +kernel
theorem dX12_blank_39 : decode cX12_blank 39 = .ok (.iload_n 3, 1) := by decide +kernel
theorem dX12_blank_40 : decode cX12_blank 40 = .ok (.iadd, 1) := by decide +kernel
theorem dX12_blank_41 : decode cX12_blank 41 = .ok (.iconst (-1), 1) := by decide +kernel
theorem dX12_blank_42 : decode cX12_blank 42 = .ok (.iastore, 1) := by decide +kernel
theorem dX12_blank_43 : decode cX12_blank 43 = .ok (.iinc 3 1, 3) := by decide +kernel
theorem dX12_blank_46 : decode cX12_blank 46 = .ok (.goto (-23), 3) := by decide +kernel
theorem dX12_blank_49 : decode cX12_blank 49 = .ok (.iconst 0, 1) := by decide +kernel
theorem dX12_blank_50 : decode cX12_blank 50 = .ok (.istore_n 3, 1) := by decide +kernel
theorem dX12_blank_51 : decode cX12_blank 51 = .ok (.iload_n 3, 1) := by decide +kernel
theorem dX12_blank_52 : decode cX12_blank 52 = .ok (.ldc 88, 2) := by decide +kernel
theorem dX12_blank_54 : decode cX12_blank 54 = .ok (.if_icmp .ge 21, 3) := by decide +kernel
theorem dX12_blank_57 : decode cX12_blank 57 = .ok (.aload_n 0, 1) := by decide +kernel
theorem dX12_blank_58 : decode cX12_blank 58 = .ok (.getfield 23, 3) := by decide +kernel
theorem dX12_blank_61 : decode cX12_blank 61 = .ok (.ldc 88, 2) := by decide +kernel
theorem dX12_blank_63 : decode cX12_blank 63 = .ok (.iload_n 2, 1) := by decide +kernel
theorem dX12_blank_64 : decode cX12_blank 64 = .ok (.imul, 1) := by decide +kernel
theorem dX12_blank_65 : decode cX12_blank 65 = .ok (.iload_n 3, 1) := by decide +kernel
theorem dX12_blank_66 : decode cX12_blank 66 = .ok (.iadd, 1) := by decide +kernel
theorem dX12_blank_67 : decode cX12_blank 67 = .ok (.iconst (-1), 1) := by decide +kernel
theorem dX12_blank_68 : decode cX12_blank 68 = .ok (.sastore, 1) := by decide +kernel
theorem dX12_blank_69 : decode cX12_blank 69 = .ok (.iinc 3 1, 3) := by decide +kernel
theorem dX12_blank_72 : decode cX12_blank 72 = .ok (.goto (-21), 3) := by decide +kernel
theorem dX12_blank_75 : decode cX12_blank 75 = .ok (.aload_n 0, 1) := by decide +kernel
theorem dX12_blank_76 : decode cX12_blank 76 = .ok (.getfield 27, 3) := by decide +kernel
theorem dX12_blank_79 : decode cX12_blank 79 = .ok (.iload_n 2, 1) := by decide +kernel
theorem dX12_blank_80 : decode cX12_blank 80 = .ok (.iconst 0, 1) := by decide +kernel
theorem dX12_blank_81 : decode cX12_blank 81 = .ok (.iastore, 1) := by decide +kernel
theorem dX12_blank_82 : decode cX12_blank 82 = .ok (.aload_n 0, 1) := by decide +kernel
theorem dX12_blank_83 : decode cX12_blank 83 = .ok (.dup, 1) := by decide +kernel
theorem dX12_blank_84 : decode cX12_blank 84 = .ok (.getfield 148, 3) := by decide +kernel
theorem dX12_blank_87 : decode cX12_blank 87 = .ok (.iconst 1, 1) := by decide +kernel
theorem dX12_blank_88 : decode cX12_blank 88 = .ok (.iadd, 1) := by decide +kernel
theorem dX12_blank_89 : decode cX12_blank 89 = .ok (.putfield 148, 3) := by decide +kernel
theorem dX12_blank_92 : decode cX12_blank 92 = .ok (.iconst 1, 1) := by decide +kernel
theorem dX12_blank_93 : decode cX12_blank 93 = .ok (.ireturn, 1) := by decide +kernel
theorem dX12_marksOf_0 : decode cX12_marksOf 0 = .ok (.iconst 0, 1) := by decide +kernel
theorem dX12_marksOf_1 : decode cX12_marksOf 1 = .ok (.istore_n 1, 1) := by decide +kernel
theorem dX12_marksOf_2 : decode cX12_marksOf 2 = .ok (.iconst 0, 1) := by decide +kernel
theorem dX12_marksOf_3 : decode cX12_marksOf 3 = .ok (.istore_n 2, 1) := by decide +kernel
theorem dX12_marksOf_4 : decode cX12_marksOf 4 = .ok (.iload_n 2, 1) := by decide +kernel
theorem dX12_marksOf_5 : decode cX12_marksOf 5 = .ok (.aload_n 0, 1) := by decide +kernel
theorem dX12_marksOf_6 : decode cX12_marksOf 6 = .ok (.getfield 13, 3) := by decide +kernel
theorem dX12_marksOf_9 : decode cX12_marksOf 9 = .ok (.iconst 0, 1) := by decide +kernel
theorem dX12_marksOf_10 : decode cX12_marksOf 10 = .ok (.iaload, 1) := by decide +kernel
theorem dX12_marksOf_11 : decode cX12_marksOf 11 = .ok (.if_icmp .ge 23, 3) := by decide +kernel
theorem dX12_marksOf_14 : decode cX12_marksOf 14 = .ok (.aload_n 0, 1) := by decide +kernel
theorem dX12_marksOf_15 : decode cX12_marksOf 15 = .ok (.getfield 16, 3) := by decide +kernel
theorem dX12_marksOf_18 : decode cX12_marksOf 18 = .ok (.iload_n 2, 1) := by decide +kernel
theorem dX12_marksOf_19 : decode cX12_marksOf 19 = .ok (.iaload, 1) := by decide +kernel
theorem dX12_marksOf_20 : decode cX12_marksOf 20 = .ok (.ldc 126, 2) := by decide +kernel
theorem dX12_marksOf_22 : decode cX12_marksOf 22 = .ok (.if_icmp .ne 6, 3) := by decide +kernel
theorem dX12_marksOf_25 : decode cX12_marksOf 25 = .ok (.iinc 1 1, 3) := by decide +kernel
theorem dX12_marksOf_28 : decode cX12_marksOf 28 = .ok (.iinc 2 1, 3) := by decide +kernel
theorem dX12_marksOf_31 : decode cX12_marksOf 31 = .ok (.goto (-27), 3) := by decide +kernel
theorem dX12_marksOf_34 : decode cX12_marksOf 34 = .ok (.iload_n 1, 1) := by decide +kernel
theorem dX12_marksOf_35 : decode cX12_marksOf 35 = .ok (.ireturn, 1) := by decide +kernel
set_option maxRecDepth 20000 in
theorem ggX12_count_X12_marksOf : GoodIn wsX12_count wsX12_marksOf := goodIn_r _ [12, 2, 13, 14, 15, 16, 17, 18, 19, 20, 21, 22, 23, 24, 25, 26, 27, 28, 29, 30, 31, 32, 33, 34, 35, 36, 37, 38, 39, 40, 41, 42, 43, 44, 45, 46, 47, 48, 49, 50, 51, 52, 53, 54] (by decide +kernel) (by decide +kernel)
set_option maxRecDepth 20000 in
theorem gX12_count_X12_marksOf : GoodIn wsX12_count (wsV RX12 164 RX12 yX12_marksOf wsX12_marksOf) := goodIn_app (goodIn_of _ (by decide +kernel)) ggX12_count_X12_marksOf
theorem dX12_count_0 : decode cX12_count 0 = .ok (.aload_n 0, 1) := by decide +kernel
theorem dX12_count_1 : decode cX12_count 1 = .ok (.iconst 0, 1) := by decide +kernel
theorem dX12_count_2 : decode cX12_count 2 = .ok (.putfield 85, 3) := by decide +kernel
theorem dX12_count_5 : decode cX12_count 5 = .ok (.iload_n 1, 1) := by decide +kernel
theorem dX12_count_6 : decode cX12_count 6 = .ok (.tableswitch 92 0 7 #[46, 53, 58, 63, 68, 73, 78, 85], 46) := by decide +kernel
theorem dX12_count_52 : decode cX12_count 52 = .ok (.aload_n 0, 1) := by decide +kernel
theorem dX12_count_53 : decode cX12_count 53 = .ok (.getfield 13, 3) := by decide +kernel
theorem dX12_count_56 : decode cX12_count 56 = .ok (.iconst 0, 1) := by decide +kernel
theorem dX12_count_57 : decode cX12_count 57 = .ok (.iaload, 1) := by decide +kernel
theorem dX12_count_58 : decode cX12_count 58 = .ok (.ireturn, 1) := by decide +kernel
theorem dX12_count_59 : decode cX12_count 59 = .ok (.aload_n 0, 1) := by decide +kernel
theorem dX12_count_60 : decode cX12_count 60 = .ok (.getfield 151, 3) := by decide +kernel
theorem dX12_count_63 : decode cX12_count 63 = .ok (.ireturn, 1) := by decide +kernel
theorem dX12_count_64 : decode cX12_count 64 = .ok (.aload_n 0, 1) := by decide +kernel
theorem dX12_count_65 : decode cX12_count 65 = .ok (.getfield 161, 3) := by decide +kernel
theorem dX12_count_68 : decode cX12_count 68 = .ok (.ireturn, 1) := by decide +kernel
theorem dX12_count_69 : decode cX12_count 69 = .ok (.aload_n 0, 1) := by decide +kernel
theorem dX12_count_70 : decode cX12_count 70 = .ok (.getfield 142, 3) := by decide +kernel
theorem dX12_count_73 : decode cX12_count 73 = .ok (.ireturn, 1) := by decide +kernel
theorem dX12_count_74 : decode cX12_count 74 = .ok (.aload_n 0, 1) := by decide +kernel
theorem dX12_count_75 : decode cX12_count 75 = .ok (.invokevirtual 164, 3) := by decide +kernel
theorem dX12_count_78 : decode cX12_count 78 = .ok (.ireturn, 1) := by decide +kernel
theorem dX12_count_79 : decode cX12_count 79 = .ok (.aload_n 0, 1) := by decide +kernel
theorem dX12_count_80 : decode cX12_count 80 = .ok (.getfield 168, 3) := by decide +kernel
theorem dX12_count_83 : decode cX12_count 83 = .ok (.ireturn, 1) := by decide +kernel
theorem dX12_count_84 : decode cX12_count 84 = .ok (.aload_n 0, 1) := by decide +kernel
theorem dX12_count_85 : decode cX12_count 85 = .ok (.getfield 27, 3) := by decide +kernel
theorem dX12_count_88 : decode cX12_count 88 = .ok (.iconst 0, 1) := by decide +kernel
theorem dX12_count_89 : decode cX12_count 89 = .ok (.iaload, 1) := by decide +kernel
theorem dX12_count_90 : decode cX12_count 90 = .ok (.ireturn, 1) := by decide +kernel
theorem dX12_count_91 : decode cX12_count 91 = .ok (.aload_n 0, 1) := by decide +kernel
theorem dX12_count_92 : decode cX12_count 92 = .ok (.getfield 27, 3) := by decide +kernel
theorem dX12_count_95 : decode cX12_count 95 = .ok (.iconst 1, 1) := by decide +kernel
theorem dX12_count_96 : decode cX12_count 96 = .ok (.iaload, 1) := by decide +kernel
theorem dX12_count_97 : decode cX12_count 97 = .ok (.ireturn, 1) := by decide +kernel
theorem dX12_count_98 : decode cX12_count 98 = .ok (.iconst (-1), 1) := by decide +kernel
theorem dX12_count_99 : decode cX12_count 99 = .ok (.ireturn, 1) := by decide +kernel
theorem dX12_at_0 : decode cX12_at 0 = .ok (.aload_n 0, 1) := by decide +kernel
theorem dX12_at_1 : decode cX12_at 1 = .ok (.iconst 0, 1) := by decide +kernel
theorem dX12_at_2 : decode cX12_at 2 = .ok (.putfield 85, 3) := by decide +kernel
theorem dX12_at_5 : decode cX12_at 5 = .ok (.iload_n 1, 1) := by decide +kernel
theorem dX12_at_6 : decode cX12_at 6 = .ok (.ifCond .lt 13, 3) := by decide +kernel
theorem dX12_at_9 : decode cX12_at 9 = .ok (.iload_n 1, 1) := by decide +kernel
theorem dX12_at_10 : decode cX12_at 10 = .ok (.aload_n 0, 1) := by decide +kernel
theorem dX12_at_11 : decode cX12_at 11 = .ok (.getfield 13, 3) := by decide +kernel
theorem dX12_at_14 : decode cX12_at 14 = .ok (.iconst 0, 1) := by decide +kernel
theorem dX12_at_15 : decode cX12_at 15 = .ok (.iaload, 1) := by decide +kernel
theorem dX12_at_16 : decode cX12_at 16 = .ok (.if_icmp .lt 10, 3) := by decide +kernel
theorem dX12_at_19 : decode cX12_at 19 = .ok (.aload_n 0, 1) := by decide +kernel
theorem dX12_at_20 : decode cX12_at 20 = .ok (.iconst 1, 1) := by decide +kernel
theorem dX12_at_21 : decode cX12_at 21 = .ok (.putfield 85, 3) := by decide +kernel
theorem dX12_at_24 : decode cX12_at 24 = .ok (.iconst 0, 1) := by decide +kernel
theorem dX12_at_25 : decode cX12_at 25 = .ok (.ireturn, 1) := by decide +kernel
theorem dX12_at_26 : decode cX12_at 26 = .ok (.aload_n 0, 1) := by decide +kernel
theorem dX12_at_27 : decode cX12_at 27 = .ok (.getfield 16, 3) := by decide +kernel
theorem dX12_at_30 : decode cX12_at 30 = .ok (.iload_n 1, 1) := by decide +kernel
theorem dX12_at_31 : decode cX12_at 31 = .ok (.iaload, 1) := by decide +kernel
theorem dX12_at_32 : decode cX12_at 32 = .ok (.ireturn, 1) := by decide +kernel
set_option maxRecDepth 20000 in
theorem ggX12_size_X12_isCode : GoodIn wsX12_size wsX12_isCode := goodIn_r _ [10] (by decide +kernel) (by decide +kernel)
set_option maxRecDepth 20000 in
theorem gX12_size_X12_isCode : GoodIn wsX12_size (va_wsS RX12 158 yX12_isCode wsX12_isCode) := goodIn_app (goodIn_of _ (by decide +kernel)) ggX12_size_X12_isCode
set_option maxRecDepth 20000 in
theorem ggX12_size_X12_write : GoodIn wsX12_size wsX12_write := goodIn_r _ [14, 6, 5, 15, 16, 17, 9, 18, 19, 20, 21, 22, 23, 24, 25, 26, 27, 28, 29, 30, 31, 32, 33, 34, 35, 36, 37, 38, 39, 40, 41, 42, 43, 44, 45, 46, 47, 48, 49, 50, 51, 52, 53, 54, 55, 56, 57, 58, 59, 60, 61, 62, 63, 64, 65] (by decide +kernel) (by decide +kernel)
set_option maxRecDepth 20000 in
theorem gX12_size_X12_write : GoodIn wsX12_size (wsV RX12 127 RX12 yX12_write wsX12_write) := goodIn_app (goodIn_of _ (by decide +kernel)) ggX12_size_X12_write
theorem dX12_size_0 : decode cX12_size 0 = .ok (.aload_n 0, 1) := by decide +kernel
theorem dX12_size_1 : decode cX12_size 1 = .ok (.iconst 0, 1) := by decide +kernel
theorem dX12_size_2 : decode cX12_size 2 = .ok (.putfield 85, 3) := by decide +kernel
theorem dX12_size_5 : decode cX12_size 5 = .ok (.aload_n 0, 1) := by decide +kernel
theorem dX12_size_6 : decode cX12_size 6 = .ok (.iconst (-1), 1) := by decide +kernel
theorem dX12_size_7 : decode cX12_size 7 = .ok (.putfield 55, 3) := by decide +kernel
theorem dX12_size_10 : decode cX12_size 10 = .ok (.iload_n 1, 1) := by decide +kernel
theorem dX12_size_11 : decode cX12_size 11 = .ok (.invokestatic 158, 3) := by decide +kernel
theorem dX12_size_14 : decode cX12_size 14 = .ok (.ifCond .ne 5, 3) := by decide +kernel
theorem dX12_size_17 : decode cX12_size 17 = .ok (.iconst (-1), 1) := by decide +kernel
theorem dX12_size_18 : decode cX12_size 18 = .ok (.ireturn, 1) := by decide +kernel
theorem dX12_size_19 : decode cX12_size 19 = .ok (.aload_n 0, 1) := by decide +kernel
theorem dX12_size_20 : decode cX12_size 20 = .ok (.iload_n 1, 1) := by decide +kernel
theorem dX12_size_21 : decode cX12_size 21 = .ok (.aload_n 0, 1) := by decide +kernel
theorem dX12_size_22 : decode cX12_size 22 = .ok (.getfield 16, 3) := by decide +kernel
theorem dX12_size_25 : decode cX12_size 25 = .ok (.aload_n 0, 1) := by decide +kernel
theorem dX12_size_26 : decode cX12_size 26 = .ok (.getfield 13, 3) := by decide +kernel
theorem dX12_size_29 : decode cX12_size 29 = .ok (.iconst 0, 1) := by decide +kernel
theorem dX12_size_30 : decode cX12_size 30 = .ok (.iaload, 1) := by decide +kernel
theorem dX12_size_31 : decode cX12_size 31 = .ok (.invokevirtual 127, 3) := by decide +kernel
theorem dX12_size_34 : decode cX12_size 34 = .ok (.ifCond .ne 13, 3) := by decide +kernel
theorem dX12_size_37 : decode cX12_size 37 = .ok (.aload_n 0, 1) := by decide +kernel
theorem dX12_size_38 : decode cX12_size 38 = .ok (.aload_n 0, 1) := by decide +kernel
theorem dX12_size_39 : decode cX12_size 39 = .ok (.getfield 102, 3) := by decide +kernel
theorem dX12_size_42 : decode cX12_size 42 = .ok (.putfield 55, 3) := by decide +kernel
theorem dX12_size_45 : decode cX12_size 45 = .ok (.iconst (-1), 1) := by decide +kernel
theorem dX12_size_46 : decode cX12_size 46 = .ok (.ireturn, 1) := by decide +kernel
theorem dX12_size_47 : decode cX12_size 47 = .ok (.aload_n 0, 1) := by decide +kernel
theorem dX12_size_48 : decode cX12_size 48 = .ok (.getfield 91, 3) := by decide +kernel
theorem dX12_size_51 : decode cX12_size 51 = .ok (.ireturn, 1) := by decide +kernel
set_option maxRecDepth 20000 in
theorem ggX12_byteOf_X12_isCode : GoodIn wsX12_byteOf wsX12_isCode := goodIn_r _ [11] (by decide +kernel) (by decide +kernel)
set_option maxRecDepth 20000 in
theorem gX12_byteOf_X12_isCode : GoodIn wsX12_byteOf (va_wsS RX12 158 yX12_isCode wsX12_isCode) := goodIn_app (goodIn_of _ (by decide +kernel)) ggX12_byteOf_X12_isCode
set_option maxRecDepth 20000 in
theorem ggX12_byteOf_X12_write : GoodIn wsX12_byteOf wsX12_write := goodIn_r _ [15, 6, 5, 16, 17, 18, 10, 19, 20, 21, 22, 23, 24, 25, 7, 26, 27, 28, 29, 30, 31, 32, 33, 34, 35, 36, 37, 38, 39, 40, 41, 42, 43, 44, 45, 46, 47, 48, 49, 50, 51, 52, 53, 54, 55, 56, 57, 58, 59, 60, 61, 62, 63, 64, 65] (by decide +kernel) (by decide +kernel)
set_option maxRecDepth 20000 in
theorem gX12_byteOf_X12_write : GoodIn wsX12_byteOf (wsV RX12 127 RX12 yX12_write wsX12_write) := goodIn_app (goodIn_of _ (by decide +kernel)) ggX12_byteOf_X12_write
theorem dX12_byteOf_0 : decode cX12_byteOf 0 = .ok (.aload_n 0, 1) := by decide +kernel
theorem dX12_byteOf_1 : decode cX12_byteOf 1 = .ok (.iconst 0, 1) := by decide +kernel
theorem dX12_byteOf_2 : decode cX12_byteOf 2 = .ok (.putfield 85, 3) := by decide +kernel
theorem dX12_byteOf_5 : decode cX12_byteOf 5 = .ok (.aload_n 0, 1) := by decide +kernel
theorem dX12_byteOf_6 : decode cX12_byteOf 6 = .ok (.iconst (-1), 1) := by decide +kernel
theorem dX12_byteOf_7 : decode cX12_byteOf 7 = .ok (.putfield 55, 3) := by decide +kernel
theorem dX12_byteOf_10 : decode cX12_byteOf 10 = .ok (.iload_n 1, 1) := by decide +kernel
theorem dX12_byteOf_11 : decode cX12_byteOf 11 = .ok (.invokestatic 158, 3) := by decide +kernel
theorem dX12_byteOf_14 : decode cX12_byteOf 14 = .ok (.ifCond .ne 5, 3) := by decide +kernel
theorem dX12_byteOf_17 : decode cX12_byteOf 17 = .ok (.iconst (-1), 1) := by decide +kernel
theorem dX12_byteOf_18 : decode cX12_byteOf 18 = .ok (.ireturn, 1) := by decide +kernel
theorem dX12_byteOf_19 : decode cX12_byteOf 19 = .ok (.aload_n 0, 1) := by decide +kernel
theorem dX12_byteOf_20 : decode cX12_byteOf 20 = .ok (.iload_n 1, 1) := by decide +kernel
theorem dX12_byteOf_21 : decode cX12_byteOf 21 = .ok (.aload_n 0, 1) := by decide +kernel
theorem dX12_byteOf_22 : decode cX12_byteOf 22 = .ok (.getfield 16, 3) := by decide +kernel
theorem dX12_byteOf_25 : decode cX12_byteOf 25 = .ok (.aload_n 0, 1) := by decide +kernel
theorem dX12_byteOf_26 : decode cX12_byteOf 26 = .ok (.getfield 13, 3) := by decide +kernel
theorem dX12_byteOf_29 : decode cX12_byteOf 29 = .ok (.iconst 0, 1) := by decide +kernel
theorem dX12_byteOf_30 : decode cX12_byteOf 30 = .ok (.iaload, 1) := by decide +kernel
theorem dX12_byteOf_31 : decode cX12_byteOf 31 = .ok (.invokevirtual 127, 3) := by decide +kernel
theorem dX12_byteOf_34 : decode cX12_byteOf 34 = .ok (.ifCond .ne 13, 3) := by decide +kernel
theorem dX12_byteOf_37 : decode cX12_byteOf 37 = .ok (.aload_n 0, 1) := by decide +kernel
theorem dX12_byteOf_38 : decode cX12_byteOf 38 = .ok (.aload_n 0, 1) := by decide +kernel
theorem dX12_byteOf_39 : decode cX12_byteOf 39 = .ok (.getfield 102, 3) := by decide +kernel
theorem dX12_byteOf_42 : decode cX12_byteOf 42 = .ok (.putfield 55, 3) := by decide +kernel
theorem dX12_byteOf_45 : decode cX12_byteOf 45 = .ok (.iconst (-1), 1) := by decide +kernel
theorem dX12_byteOf_46 : decode cX12_byteOf 46 = .ok (.ireturn, 1) := by decide +kernel
theorem dX12_byteOf_47 : decode cX12_byteOf 47 = .ok (.iload_n 2, 1) := by decide +kernel
theorem dX12_byteOf_48 : decode cX12_byteOf 48 = .ok (.ifCond .lt 20, 3) := by decide +kernel
theorem dX12_byteOf_51 : decode cX12_byteOf 51 = .ok (.iload_n 2, 1) := by decide +kernel
theorem dX12_byteOf_52 : decode cX12_byteOf 52 = .ok (.aload_n 0, 1) := by decide +kernel
theorem dX12_byteOf_53 : decode cX12_byteOf 53 = .ok (.getfield 91, 3) := by decide +kernel
theorem dX12_byteOf_56 : decode cX12_byteOf 56 = .ok (.if_icmp .ge 12, 3) := by decide +kernel
theorem dX12_byteOf_59 : decode cX12_byteOf 59 = .ok (.aload_n 0, 1) := by decide +kernel
theorem dX12_byteOf_60 : decode cX12_byteOf 60 = .ok (.getfield 58, 3) := by decide +kernel
theorem dX12_byteOf_63 : decode cX12_byteOf 63 = .ok (.iload_n 2, 1) := by decide +kernel
theorem dX12_byteOf_64 : decode cX12_byteOf 64 = .ok (.iaload, 1) := by decide +kernel
theorem dX12_byteOf_65 : decode cX12_byteOf 65 = .ok (.goto 4, 3) := by decide +kernel
theorem dX12_byteOf_68 : decode cX12_byteOf 68 = .ok (.iconst (-1), 1) := by decide +kernel
theorem dX12_byteOf_69 : decode cX12_byteOf 69 = .ok (.ireturn, 1) := by decide +kernel
theorem dX12_where_0 : decode cX12_where 0 = .ok (.aload_n 0, 1) := by decide +kernel
theorem dX12_where_1 : decode cX12_where 1 = .ok (.iconst 0, 1) := by decide +kernel
theorem dX12_where_2 : decode cX12_where 2 = .ok (.putfield 85, 3) := by decide +kernel
theorem dX12_where_5 : decode cX12_where 5 = .ok (.aload_n 0, 1) := by decide +kernel
theorem dX12_where_6 : decode cX12_where 6 = .ok (.getfield 55, 3) := by decide +kernel
theorem dX12_where_9 : decode cX12_where 9 = .ok (.ireturn, 1) := by decide +kernel
set_option maxRecDepth 20000 in
theorem ggX12_harm_X12_isCode : GoodIn wsX12_harm wsX12_isCode := goodIn_r _ [11] (by decide +kernel) (by decide +kernel)
set_option maxRecDepth 20000 in
theorem gX12_harm_X12_isCode : GoodIn wsX12_harm (va_wsS RX12 158 yX12_isCode wsX12_isCode) := goodIn_app (goodIn_of _ (by decide +kernel)) ggX12_harm_X12_isCode
set_option maxRecDepth 20000 in
theorem ggX12_harm_X12_does : GoodIn wsX12_harm wsX12_does := goodIn_r _ [15, 5, 16, 7, 17, 18, 19, 10, 20, 21, 22, 23, 24, 25, 26, 27, 28, 29, 30, 31, 32, 33, 34, 35, 6, 36, 37, 38, 39, 40, 41, 42, 43, 44, 45, 46, 47, 48, 49, 50, 51, 52, 53, 54, 62, 63, 64, 65, 66, 67, 68, 69, 70, 71, 72, 73, 74, 75, 76, 77, 78, 79, 80, 81, 82, 83, 84, 85, 86, 87, 88, 89, 90, 91, 92, 93, 94, 95, 96, 97, 98, 99, 100, 101] (by decide +kernel) (by decide +kernel)
set_option maxRecDepth 20000 in
theorem gX12_harm_X12_does : GoodIn wsX12_harm (wsV RX12 138 RX12 yX12_does wsX12_does) := goodIn_app (goodIn_of _ (by decide +kernel)) ggX12_harm_X12_does
set_option maxRecDepth 20000 in
theorem ggX12_harm_X12_become : GoodIn wsX12_harm wsX12_become := goodIn_r _ [58, 59, 60, 4, 3, 61, 62, 63, 64, 65, 66, 67, 68, 69, 70, 71, 72, 73, 74, 75, 76, 77, 78, 79, 80, 81, 82, 83, 84, 85, 86, 87, 88, 89, 90, 91, 92, 93, 94, 95, 96, 97, 98, 99, 100, 101] (by decide +kernel) (by decide +kernel)
set_option maxRecDepth 20000 in
theorem gX12_harm_X12_become : GoodIn wsX12_harm (wsV RX12 154 RX12 yX12_become wsX12_become) := goodIn_app (goodIn_of _ (by decide +kernel)) ggX12_harm_X12_become
theorem dX12_harm_0 : decode cX12_harm 0 = .ok (.aload_n 0, 1) := by decide +kernel
theorem dX12_harm_1 : decode cX12_harm 1 = .ok (.iconst 0, 1) := by decide +kernel
theorem dX12_harm_2 : decode cX12_harm 2 = .ok (.putfield 85, 3) := by decide +kernel
theorem dX12_harm_5 : decode cX12_harm 5 = .ok (.aload_n 0, 1) := by decide +kernel
theorem dX12_harm_6 : decode cX12_harm 6 = .ok (.iconst (-1), 1) := by decide +kernel
theorem dX12_harm_7 : decode cX12_harm 7 = .ok (.putfield 55, 3) := by decide +kernel
theorem dX12_harm_10 : decode cX12_harm 10 = .ok (.iload_n 1, 1) := by decide +kernel
theorem dX12_harm_11 : decode cX12_harm 11 = .ok (.invokestatic 158, 3) := by decide +kernel
theorem dX12_harm_14 : decode cX12_harm 14 = .ok (.ifCond .eq 10, 3) := by decide +kernel
theorem dX12_harm_17 : decode cX12_harm 17 = .ok (.iload_n 2, 1) := by decide +kernel
theorem dX12_harm_18 : decode cX12_harm 18 = .ok (.invokestatic 158, 3) := by decide +kernel
theorem dX12_harm_21 : decode cX12_harm 21 = .ok (.ifCond .ne 5, 3) := by decide +kernel
theorem dX12_harm_24 : decode cX12_harm 24 = .ok (.iconst (-1), 1) := by decide +kernel
theorem dX12_harm_25 : decode cX12_harm 25 = .ok (.ireturn, 1) := by decide +kernel
theorem dX12_harm_26 : decode cX12_harm 26 = .ok (.aload_n 0, 1) := by decide +kernel
theorem dX12_harm_27 : decode cX12_harm 27 = .ok (.iload_n 1, 1) := by decide +kernel
theorem dX12_harm_28 : decode cX12_harm 28 = .ok (.iload_n 2, 1) := by decide +kernel
theorem dX12_harm_29 : decode cX12_harm 29 = .ok (.aload_n 0, 1) := by decide +kernel
theorem dX12_harm_30 : decode cX12_harm 30 = .ok (.getfield 16, 3) := by decide +kernel
theorem dX12_harm_33 : decode cX12_harm 33 = .ok (.aload_n 0, 1) := by decide +kernel
theorem dX12_harm_34 : decode cX12_harm 34 = .ok (.getfield 13, 3) := by decide +kernel
theorem dX12_harm_37 : decode cX12_harm 37 = .ok (.iconst 0, 1) := by decide +kernel
theorem dX12_harm_38 : decode cX12_harm 38 = .ok (.iaload, 1) := by decide +kernel
theorem dX12_harm_39 : decode cX12_harm 39 = .ok (.invokevirtual 138, 3) := by decide +kernel
theorem dX12_harm_42 : decode cX12_harm 42 = .ok (.ifCond .ne 13, 3) := by decide +kernel
theorem dX12_harm_45 : decode cX12_harm 45 = .ok (.aload_n 0, 1) := by decide +kernel
theorem dX12_harm_46 : decode cX12_harm 46 = .ok (.aload_n 0, 1) := by decide +kernel
theorem dX12_harm_47 : decode cX12_harm 47 = .ok (.getfield 102, 3) := by decide +kernel
theorem dX12_harm_50 : decode cX12_harm 50 = .ok (.putfield 55, 3) := by decide +kernel
theorem dX12_harm_53 : decode cX12_harm 53 = .ok (.iconst (-1), 1) := by decide +kernel
theorem dX12_harm_54 : decode cX12_harm 54 = .ok (.ireturn, 1) := by decide +kernel
theorem dX12_harm_55 : decode cX12_harm 55 = .ok (.aload_n 0, 1) := by decide +kernel
theorem dX12_harm_56 : decode cX12_harm 56 = .ok (.aload_n 0, 1) := by decide +kernel
theorem dX12_harm_57 : decode cX12_harm 57 = .ok (.getfield 61, 3) := by decide +kernel
theorem dX12_harm_60 : decode cX12_harm 60 = .ok (.aload_n 0, 1) := by decide +kernel
theorem dX12_harm_61 : decode cX12_harm 61 = .ok (.getfield 119, 3) := by decide +kernel
theorem dX12_harm_64 : decode cX12_harm 64 = .ok (.invokevirtual 154, 3) := by decide +kernel
theorem dX12_harm_67 : decode cX12_harm 67 = .ok (.aload_n 0, 1) := by decide +kernel
theorem dX12_harm_68 : decode cX12_harm 68 = .ok (.getfield 119, 3) := by decide +kernel
theorem dX12_harm_71 : decode cX12_harm 71 = .ok (.ireturn, 1) := by decide +kernel
set_option maxRecDepth 20000 in
theorem ggX12_rough_X12_isCode : GoodIn wsX12_rough wsX12_isCode := goodIn_r _ [14] (by decide +kernel) (by decide +kernel)
set_option maxRecDepth 20000 in
theorem gX12_rough_X12_isCode : GoodIn wsX12_rough (va_wsS RX12 158 yX12_isCode wsX12_isCode) := goodIn_app (goodIn_of _ (by decide +kernel)) ggX12_rough_X12_isCode
set_option maxRecDepth 20000 in
theorem ggX12_rough_X12_write : GoodIn wsX12_rough wsX12_write := goodIn_r _ [18, 6, 5, 19, 20, 21, 13, 22, 23, 24, 25, 26, 27, 28, 29, 54, 55, 56, 57, 58, 59, 60, 61, 62, 63, 64, 65, 66, 67, 68, 69, 70, 71, 72, 73, 74, 75, 76, 77, 78, 79, 80, 81, 82, 83, 84, 85, 86, 87, 88, 89, 90, 91, 92, 93] (by decide +kernel) (by decide +kernel)
set_option maxRecDepth 20000 in
theorem gX12_rough_X12_write : GoodIn wsX12_rough (wsV RX12 127 RX12 yX12_write wsX12_write) := goodIn_app (goodIn_of _ (by decide +kernel)) ggX12_rough_X12_write
set_option maxRecDepth 20000 in
theorem ggX12_rough_X12_readAt : GoodIn wsX12_rough wsX12_readAt := goodIn_r _ [33, 29, 10, 34, 35, 36, 37, 13, 38, 6, 39, 40, 41, 42, 43, 44, 24, 45, 46, 54, 55, 56, 57, 58, 59, 60, 61, 62, 63, 64, 65, 66, 67, 68, 69, 70, 71, 72, 73, 74, 75, 76, 77, 78, 79, 80, 81, 82, 83, 84, 85, 86, 87, 88, 89, 90, 91, 92, 93] (by decide +kernel) (by decide +kernel)
set_option maxRecDepth 20000 in
theorem gX12_rough_X12_readAt : GoodIn wsX12_rough (wsV RX12 122 RX12 yX12_readAt wsX12_readAt) := goodIn_app (goodIn_of _ (by decide +kernel)) ggX12_rough_X12_readAt
set_option maxRecDepth 20000 in
theorem ggX12_rough_X12_become : GoodIn wsX12_rough wsX12_become := goodIn_r _ [50, 51, 52, 4, 3, 53, 54, 55, 56, 57, 58, 59, 60, 61, 62, 63, 64, 65, 66, 67, 68, 69, 70, 71, 72, 73, 74, 75, 76, 77, 78, 79, 80, 81, 82, 83, 84, 85, 86, 87, 88, 89, 90, 91, 92, 93] (by decide +kernel) (by decide +kernel)
set_option maxRecDepth 20000 in
theorem gX12_rough_X12_become : GoodIn wsX12_rough (wsV RX12 154 RX12 yX12_become wsX12_become) := goodIn_app (goodIn_of _ (by decide +kernel)) ggX12_rough_X12_become
theorem dX12_rough_0 : decode cX12_rough 0 = .ok (.aload_n 0, 1) := by decide +kernel
theorem dX12_rough_1 : decode cX12_rough 1 = .ok (.iconst 0, 1) := by decide +kernel
theorem dX12_rough_2 : decode cX12_rough 2 = .ok (.putfield 85, 3) := by decide +kernel
theorem dX12_rough_5 : decode cX12_rough 5 = .ok (.aload_n 0, 1) := by decide +kernel
theorem dX12_rough_6 : decode cX12_rough 6 = .ok (.iconst (-1), 1) := by decide +kernel
theorem dX12_rough_7 : decode cX12_rough 7 = .ok (.putfield 55, 3) := by decide +kernel
theorem dX12_rough_10 : decode cX12_rough 10 = .ok (.iload_n 1, 1) := by decide +kernel
theorem dX12_rough_11 : decode cX12_rough 11 = .ok (.invokestatic 158, 3) := by decide +kernel
theorem dX12_rough_14 : decode cX12_rough 14 = .ok (.ifCond .eq 10, 3) := by decide +kernel
theorem dX12_rough_17 : decode cX12_rough 17 = .ok (.iload_n 2, 1) := by decide +kernel
theorem dX12_rough_18 : decode cX12_rough 18 = .ok (.invokestatic 158, 3) := by decide +kernel
theorem dX12_rough_21 : decode cX12_rough 21 = .ok (.ifCond .ne 5, 3) := by decide +kernel
theorem dX12_rough_24 : decode cX12_rough 24 = .ok (.iconst (-1), 1) := by decide +kernel
theorem dX12_rough_25 : decode cX12_rough 25 = .ok (.ireturn, 1) := by decide +kernel
theorem dX12_rough_26 : decode cX12_rough 26 = .ok (.aload_n 0, 1) := by decide +kernel
theorem dX12_rough_27 : decode cX12_rough 27 = .ok (.iload_n 1, 1) := by decide +kernel
theorem dX12_rough_28 : decode cX12_rough 28 = .ok (.aload_n 0, 1) := by decide +kernel
theorem dX12_rough_29 : decode cX12_rough 29 = .ok (.getfield 16, 3) := by decide +kernel
theorem dX12_rough_32 : decode cX12_rough 32 = .ok (.aload_n 0, 1) := by decide +kernel
theorem dX12_rough_33 : decode cX12_rough 33 = .ok (.getfield 13, 3) := by decide +kernel
theorem dX12_rough_36 : decode cX12_rough 36 = .ok (.iconst 0, 1) := by decide +kernel
theorem dX12_rough_37 : decode cX12_rough 37 = .ok (.iaload, 1) := by decide +kernel
theorem dX12_rough_38 : decode cX12_rough 38 = .ok (.invokevirtual 127, 3) := by decide +kernel
theorem dX12_rough_41 : decode cX12_rough 41 = .ok (.ifCond .ne 13, 3) := by decide +kernel
theorem dX12_rough_44 : decode cX12_rough 44 = .ok (.aload_n 0, 1) := by decide +kernel
theorem dX12_rough_45 : decode cX12_rough 45 = .ok (.aload_n 0, 1) := by decide +kernel
theorem dX12_rough_46 : decode cX12_rough 46 = .ok (.getfield 102, 3) := by decide +kernel
theorem dX12_rough_49 : decode cX12_rough 49 = .ok (.putfield 55, 3) := by decide +kernel
theorem dX12_rough_52 : decode cX12_rough 52 = .ok (.iconst (-1), 1) := by decide +kernel
theorem dX12_rough_53 : decode cX12_rough 53 = .ok (.ireturn, 1) := by decide +kernel
theorem dX12_rough_54 : decode cX12_rough 54 = .ok (.aload_n 0, 1) := by decide +kernel
theorem dX12_rough_55 : decode cX12_rough 55 = .ok (.getfield 91, 3) := by decide +kernel
theorem dX12_rough_58 : decode cX12_rough 58 = .ok (.sipush 900, 3) := by decide +kernel
theorem dX12_rough_61 : decode cX12_rough 61 = .ok (.if_icmp .le 5, 3) := by decide +kernel
theorem dX12_rough_64 : decode cX12_rough 64 = .ok (.iconst (-1), 1) := by decide +kernel
theorem dX12_rough_65 : decode cX12_rough 65 = .ok (.ireturn, 1) := by decide +kernel
theorem dX12_rough_66 : decode cX12_rough 66 = .ok (.iconst 0, 1) := by decide +kernel
theorem dX12_rough_67 : decode cX12_rough 67 = .ok (.istore_n 3, 1) := by decide +kernel
theorem dX12_rough_68 : decode cX12_rough 68 = .ok (.iconst 0, 1) := by decide +kernel
theorem dX12_rough_69 : decode cX12_rough 69 = .ok (.istore 4, 2) := by decide +kernel
theorem dX12_rough_71 : decode cX12_rough 71 = .ok (.aload_n 0, 1) := by decide +kernel
theorem dX12_rough_72 : decode cX12_rough 72 = .ok (.iconst 0, 1) := by decide +kernel
theorem dX12_rough_73 : decode cX12_rough 73 = .ok (.putfield 119, 3) := by decide +kernel
theorem dX12_rough_76 : decode cX12_rough 76 = .ok (.iload 4, 2) := by decide +kernel
theorem dX12_rough_78 : decode cX12_rough 78 = .ok (.aload_n 0, 1) := by decide +kernel
theorem dX12_rough_79 : decode cX12_rough 79 = .ok (.getfield 91, 3) := by decide +kernel
theorem dX12_rough_82 : decode cX12_rough 82 = .ok (.if_icmp .ge 77, 3) := by decide +kernel
theorem dX12_rough_85 : decode cX12_rough 85 = .ok (.aload_n 0, 1) := by decide +kernel
theorem dX12_rough_86 : decode cX12_rough 86 = .ok (.iload_n 2, 1) := by decide +kernel
theorem dX12_rough_87 : decode cX12_rough 87 = .ok (.iload 4, 2) := by decide +kernel
theorem dX12_rough_89 : decode cX12_rough 89 = .ok (.invokevirtual 122, 3) := by decide +kernel
theorem dX12_rough_92 : decode cX12_rough 92 = .ok (.istore 5, 2) := by decide +kernel
theorem dX12_rough_94 : decode cX12_rough 94 = .ok (.aload_n 0, 1) := by decide +kernel
theorem dX12_rough_95 : decode cX12_rough 95 = .ok (.getfield 61, 3) := by decide +kernel
theorem dX12_rough_98 : decode cX12_rough 98 = .ok (.aload_n 0, 1) := by decide +kernel
theorem dX12_rough_99 : decode cX12_rough 99 = .ok (.getfield 119, 3) := by decide +kernel
theorem dX12_rough_102 : decode cX12_rough 102 = .ok (.iload 5, 2) := by decide +kernel
theorem dX12_rough_104 : decode cX12_rough 104 = .ok (.ifCond .ne 8, 3) := by decide +kernel
theorem dX12_rough_107 : decode cX12_rough 107 = .ok (.ldc 126, 2) := by decide +kernel
theorem dX12_rough_109 : decode cX12_rough 109 = .ok (.goto 7, 3) := by decide +kernel
theorem dX12_rough_112 : decode cX12_rough 112 = .ok (.aload_n 0, 1) := by decide +kernel
theorem dX12_rough_113 : decode cX12_rough 113 = .ok (.getfield 105, 3) := by decide +kernel
theorem dX12_rough_116 : decode cX12_rough 116 = .ok (.iastore, 1) := by decide +kernel
theorem dX12_rough_117 : decode cX12_rough 117 = .ok (.aload_n 0, 1) := by decide +kernel
theorem dX12_rough_118 : decode cX12_rough 118 = .ok (.dup, 1) := by decide +kernel
theorem dX12_rough_119 : decode cX12_rough 119 = .ok (.getfield 119, 3) := by decide +kernel
theorem dX12_rough_122 : decode cX12_rough 122 = .ok (.iconst 1, 1) := by decide +kernel
theorem dX12_rough_123 : decode cX12_rough 123 = .ok (.iadd, 1) := by decide +kernel
theorem dX12_rough_124 : decode cX12_rough 124 = .ok (.putfield 119, 3) := by decide +kernel
theorem dX12_rough_127 : decode cX12_rough 127 = .ok (.iload_n 3, 1) := by decide +kernel
theorem dX12_rough_128 : decode cX12_rough 128 = .ok (.iload 5, 2) := by decide +kernel
theorem dX12_rough_130 : decode cX12_rough 130 = .ok (.ifCond .ne 7, 3) := by decide +kernel
theorem dX12_rough_133 : decode cX12_rough 133 = .ok (.iconst 1, 1) := by decide +kernel
theorem dX12_rough_134 : decode cX12_rough 134 = .ok (.goto 4, 3) := by decide +kernel
theorem dX12_rough_137 : decode cX12_rough 137 = .ok (.iconst 0, 1) := by decide +kernel
theorem dX12_rough_138 : decode cX12_rough 138 = .ok (.iadd, 1) := by decide +kernel
theorem dX12_rough_139 : decode cX12_rough 139 = .ok (.istore_n 3, 1) := by decide +kernel
theorem dX12_rough_140 : decode cX12_rough 140 = .ok (.iload 4, 2) := by decide +kernel
theorem dX12_rough_142 : decode cX12_rough 142 = .ok (.iload 5, 2) := by decide +kernel
theorem dX12_rough_144 : decode cX12_rough 144 = .ok (.ifCond .ne 7, 3) := by decide +kernel
theorem dX12_rough_147 : decode cX12_rough 147 = .ok (.iconst 1, 1) := by decide +kernel
theorem dX12_rough_148 : decode cX12_rough 148 = .ok (.goto 5, 3) := by decide +kernel
theorem dX12_rough_151 : decode cX12_rough 151 = .ok (.iload 5, 2) := by decide +kernel
theorem dX12_rough_153 : decode cX12_rough 153 = .ok (.iadd, 1) := by decide +kernel
theorem dX12_rough_154 : decode cX12_rough 154 = .ok (.istore 4, 2) := by decide +kernel
theorem dX12_rough_156 : decode cX12_rough 156 = .ok (.goto (-80), 3) := by decide +kernel
theorem dX12_rough_159 : decode cX12_rough 159 = .ok (.aload_n 0, 1) := by decide +kernel
theorem dX12_rough_160 : decode cX12_rough 160 = .ok (.getfield 119, 3) := by decide +kernel
theorem dX12_rough_163 : decode cX12_rough 163 = .ok (.sipush 300, 3) := by decide +kernel
theorem dX12_rough_166 : decode cX12_rough 166 = .ok (.if_icmp .le 5, 3) := by decide +kernel
theorem dX12_rough_169 : decode cX12_rough 169 = .ok (.iconst (-1), 1) := by decide +kernel
theorem dX12_rough_170 : decode cX12_rough 170 = .ok (.ireturn, 1) := by decide +kernel
theorem dX12_rough_171 : decode cX12_rough 171 = .ok (.aload_n 0, 1) := by decide +kernel
theorem dX12_rough_172 : decode cX12_rough 172 = .ok (.aload_n 0, 1) := by decide +kernel
theorem dX12_rough_173 : decode cX12_rough 173 = .ok (.getfield 61, 3) := by decide +kernel
theorem dX12_rough_176 : decode cX12_rough 176 = .ok (.aload_n 0, 1) := by decide +kernel
theorem dX12_rough_177 : decode cX12_rough 177 = .ok (.getfield 119, 3) := by decide +kernel
theorem dX12_rough_180 : decode cX12_rough 180 = .ok (.invokevirtual 154, 3) := by decide +kernel
theorem dX12_rough_183 : decode cX12_rough 183 = .ok (.iload_n 3, 1) := by decide +kernel
theorem dX12_rough_184 : decode cX12_rough 184 = .ok (.ireturn, 1) := by decide +kernel
set_option maxRecDepth 20000 in
theorem ggX12_undo_X12_isCode : GoodIn wsX12_undo wsX12_isCode := goodIn_r _ [9] (by decide +kernel) (by decide +kernel)
set_option maxRecDepth 20000 in
theorem gX12_undo_X12_isCode : GoodIn wsX12_undo (va_wsS RX12 158 yX12_isCode wsX12_isCode) := goodIn_app (goodIn_of _ (by decide +kernel)) ggX12_undo_X12_isCode
set_option maxRecDepth 20000 in
theorem ggX12_undo_X12_takeText : GoodIn wsX12_undo wsX12_takeText := goodIn_r _ [13, 14, 5, 4, 15, 73, 74, 75, 76, 77, 78, 79, 80, 81, 82, 83, 84, 85, 86, 87, 88, 89, 90, 91, 92, 93, 94, 95, 96, 97, 98, 99, 100, 101, 102, 103, 104, 105, 106, 107, 108, 109, 110, 111, 112] (by decide +kernel) (by decide +kernel)
set_option maxRecDepth 20000 in
theorem gX12_undo_X12_takeText : GoodIn wsX12_undo (wsV RX12 171 RX12 yX12_takeText wsX12_takeText) := goodIn_app (goodIn_of _ (by decide +kernel)) ggX12_undo_X12_takeText
set_option maxRecDepth 20000 in
theorem ggX12_undo_X12_undoes : GoodIn wsX12_undo wsX12_undoes := goodIn_r _ [19, 4, 5, 20, 21, 22, 3, 23, 24, 25, 8, 26, 27, 28, 29, 30, 31, 32, 33, 34, 35, 36, 37, 38, 39, 40, 41, 42, 43, 44, 45, 46, 47, 48, 49, 50, 51, 52, 53, 54, 55, 56, 57, 58, 59, 60, 61, 62, 63, 64, 65, 73, 74, 75, 76, 77, 78, 79, 80, 81, 82, 83, 84, 85, 86, 87, 88, 89, 90, 91, 92, 93, 94, 95, 96, 97, 98, 99, 100, 101, 102, 103, 104, 105, 106, 107, 108, 109, 110, 111, 112] (by decide +kernel) (by decide +kernel)
set_option maxRecDepth 20000 in
theorem gX12_undo_X12_undoes : GoodIn wsX12_undo (wsV RX12 174 RX12 yX12_undoes wsX12_undoes) := goodIn_app (goodIn_of _ (by decide +kernel)) ggX12_undo_X12_undoes
set_option maxRecDepth 20000 in
theorem ggX12_undo_X12_become : GoodIn wsX12_undo wsX12_become := goodIn_r _ [69, 70, 71, 14, 15, 72, 73, 74, 75, 76, 77, 78, 79, 80, 81, 82, 83, 84, 85, 86, 87, 88, 89, 90, 91, 92, 93, 94, 95, 96, 97, 98, 99, 100, 101, 102, 103, 104, 105, 106, 107, 108, 109, 110, 111, 112] (by decide +kernel) (by decide +kernel)
set_option maxRecDepth 20000 in
theorem gX12_undo_X12_become : GoodIn wsX12_undo (wsV RX12 154 RX12 yX12_become wsX12_become) := goodIn_app (goodIn_of _ (by decide +kernel)) ggX12_undo_X12_become
theorem dX12_undo_0 : decode cX12_undo 0 = .ok (.aload_n 0, 1) := by decide +kernel
theorem dX12_undo_1 : decode cX12_undo 1 = .ok (.iconst 0, 1) := by decide +kernel
theorem dX12_undo_2 : decode cX12_undo 2 = .ok (.putfield 85, 3) := by decide +kernel
theorem dX12_undo_5 : decode cX12_undo 5 = .ok (.aload_n 0, 1) := by decide +kernel
theorem dX12_undo_6 : decode cX12_undo 6 = .ok (.iconst (-1), 1) := by decide +kernel
theorem dX12_undo_7 : decode cX12_undo 7 = .ok (.putfield 55, 3) := by decide +kernel
theorem dX12_undo_10 : decode cX12_undo 10 = .ok (.iload_n 1, 1) := by decide +kernel
theorem dX12_undo_11 : decode cX12_undo 11 = .ok (.invokestatic 158, 3) := by decide +kernel
theorem dX12_undo_14 : decode cX12_undo 14 = .ok (.ifCond .eq 10, 3) := by decide +kernel
theorem dX12_undo_17 : decode cX12_undo 17 = .ok (.iload_n 2, 1) := by decide +kernel
theorem dX12_undo_18 : decode cX12_undo 18 = .ok (.invokestatic 158, 3) := by decide +kernel
theorem dX12_undo_21 : decode cX12_undo 21 = .ok (.ifCond .ne 5, 3) := by decide +kernel
theorem dX12_undo_24 : decode cX12_undo 24 = .ok (.iconst (-1), 1) := by decide +kernel
theorem dX12_undo_25 : decode cX12_undo 25 = .ok (.ireturn, 1) := by decide +kernel
theorem dX12_undo_26 : decode cX12_undo 26 = .ok (.aload_n 0, 1) := by decide +kernel
theorem dX12_undo_27 : decode cX12_undo 27 = .ok (.invokevirtual 171, 3) := by decide +kernel
theorem dX12_undo_30 : decode cX12_undo 30 = .ok (.aload_n 0, 1) := by decide +kernel
theorem dX12_undo_31 : decode cX12_undo 31 = .ok (.iload_n 1, 1) := by decide +kernel
theorem dX12_undo_32 : decode cX12_undo 32 = .ok (.iload_n 2, 1) := by decide +kernel
theorem dX12_undo_33 : decode cX12_undo 33 = .ok (.invokevirtual 174, 3) := by decide +kernel
theorem dX12_undo_36 : decode cX12_undo 36 = .ok (.ifCond .ne 13, 3) := by decide +kernel
theorem dX12_undo_39 : decode cX12_undo 39 = .ok (.aload_n 0, 1) := by decide +kernel
theorem dX12_undo_40 : decode cX12_undo 40 = .ok (.aload_n 0, 1) := by decide +kernel
theorem dX12_undo_41 : decode cX12_undo 41 = .ok (.getfield 102, 3) := by decide +kernel
theorem dX12_undo_44 : decode cX12_undo 44 = .ok (.putfield 55, 3) := by decide +kernel
theorem dX12_undo_47 : decode cX12_undo 47 = .ok (.iconst (-1), 1) := by decide +kernel
theorem dX12_undo_48 : decode cX12_undo 48 = .ok (.ireturn, 1) := by decide +kernel
theorem dX12_undo_49 : decode cX12_undo 49 = .ok (.aload_n 0, 1) := by decide +kernel
theorem dX12_undo_50 : decode cX12_undo 50 = .ok (.aload_n 0, 1) := by decide +kernel
theorem dX12_undo_51 : decode cX12_undo 51 = .ok (.getfield 64, 3) := by decide +kernel
theorem dX12_undo_54 : decode cX12_undo 54 = .ok (.aload_n 0, 1) := by decide +kernel
theorem dX12_undo_55 : decode cX12_undo 55 = .ok (.getfield 135, 3) := by decide +kernel
theorem dX12_undo_58 : decode cX12_undo 58 = .ok (.invokevirtual 154, 3) := by decide +kernel
theorem dX12_undo_61 : decode cX12_undo 61 = .ok (.aload_n 0, 1) := by decide +kernel
theorem dX12_undo_62 : decode cX12_undo 62 = .ok (.getfield 135, 3) := by decide +kernel
theorem dX12_undo_65 : decode cX12_undo 65 = .ok (.ireturn, 1) := by decide +kernel
theorem dX12_canCome_0 : decode cX12_canCome 0 = .ok (.iload_n 1, 1) := by decide +kernel
theorem dX12_canCome_1 : decode cX12_canCome 1 = .ok (.ifCond .eq 8, 3) := by decide +kernel
theorem dX12_canCome_4 : decode cX12_canCome 4 = .ok (.iload_n 1, 1) := by decide +kernel
theorem dX12_canCome_5 : decode cX12_canCome 5 = .ok (.iconst 3, 1) := by decide +kernel
theorem dX12_canCome_6 : decode cX12_canCome 6 = .ok (.if_icmp .ne 16, 3) := by decide +kernel
theorem dX12_canCome_9 : decode cX12_canCome 9 = .ok (.iload_n 2, 1) := by decide +kernel
theorem dX12_canCome_10 : decode cX12_canCome 10 = .ok (.sipush 128, 3) := by decide +kernel
theorem dX12_canCome_13 : decode cX12_canCome 13 = .ok (.if_icmp .ge 7, 3) := by decide +kernel
theorem dX12_canCome_16 : decode cX12_canCome 16 = .ok (.iconst 1, 1) := by decide +kernel
theorem dX12_canCome_17 : decode cX12_canCome 17 = .ok (.goto 4, 3) := by decide +kernel
theorem dX12_canCome_20 : decode cX12_canCome 20 = .ok (.iconst 0, 1) := by decide +kernel
theorem dX12_canCome_21 : decode cX12_canCome 21 = .ok (.ireturn, 1) := by decide +kernel
theorem dX12_canCome_22 : decode cX12_canCome 22 = .ok (.iload_n 1, 1) := by decide +kernel
theorem dX12_canCome_23 : decode cX12_canCome 23 = .ok (.iconst 1, 1) := by decide +kernel
theorem dX12_canCome_24 : decode cX12_canCome 24 = .ok (.if_icmp .ne 5, 3) := by decide +kernel
theorem dX12_canCome_27 : decode cX12_canCome 27 = .ok (.iconst 1, 1) := by decide +kernel
theorem dX12_canCome_28 : decode cX12_canCome 28 = .ok (.ireturn, 1) := by decide +kernel
theorem dX12_canCome_29 : decode cX12_canCome 29 = .ok (.iload_n 1, 1) := by decide +kernel
theorem dX12_canCome_30 : decode cX12_canCome 30 = .ok (.iconst 2, 1) := by decide +kernel
theorem dX12_canCome_31 : decode cX12_canCome 31 = .ok (.if_icmp .ne 30, 3) := by decide +kernel
theorem dX12_canCome_34 : decode cX12_canCome 34 = .ok (.iload_n 2, 1) := by decide +kernel
theorem dX12_canCome_35 : decode cX12_canCome 35 = .ok (.sipush 192, 3) := by decide +kernel
theorem dX12_canCome_38 : decode cX12_canCome 38 = .ok (.if_icmp .lt 17, 3) := by decide +kernel
theorem dX12_canCome_41 : decode cX12_canCome 41 = .ok (.iload_n 2, 1) := by decide +kernel
theorem dX12_canCome_42 : decode cX12_canCome 42 = .ok (.sipush 193, 3) := by decide +kernel
theorem dX12_canCome_45 : decode cX12_canCome 45 = .ok (.if_icmp .le 14, 3) := by decide +kernel
theorem dX12_canCome_48 : decode cX12_canCome 48 = .ok (.iload_n 2, 1) := by decide +kernel
theorem dX12_canCome_49 : decode cX12_canCome 49 = .ok (.sipush 240, 3) := by decide +kernel
theorem dX12_canCome_52 : decode cX12_canCome 52 = .ok (.if_icmp .ge 7, 3) := by decide +kernel
theorem dX12_canCome_55 : decode cX12_canCome 55 = .ok (.iconst 1, 1) := by decide +kernel
theorem dX12_canCome_56 : decode cX12_canCome 56 = .ok (.goto 4, 3) := by decide +kernel
theorem dX12_canCome_59 : decode cX12_canCome 59 = .ok (.iconst 0, 1) := by decide +kernel
theorem dX12_canCome_60 : decode cX12_canCome 60 = .ok (.ireturn, 1) := by decide +kernel
theorem dX12_canCome_61 : decode cX12_canCome 61 = .ok (.aload_n 0, 1) := by decide +kernel
theorem dX12_canCome_62 : decode cX12_canCome 62 = .ok (.getfield 19, 3) := by decide +kernel
theorem dX12_canCome_65 : decode cX12_canCome 65 = .ok (.sipush 256, 3) := by decide +kernel
theorem dX12_canCome_68 : decode cX12_canCome 68 = .ok (.iload_n 1, 1) := by decide +kernel
theorem dX12_canCome_69 : decode cX12_canCome 69 = .ok (.iconst 4, 1) := by decide +kernel
theorem dX12_canCome_70 : decode cX12_canCome 70 = .ok (.isub, 1) := by decide +kernel
theorem dX12_canCome_71 : decode cX12_canCome 71 = .ok (.imul, 1) := by decide +kernel
theorem dX12_canCome_72 : decode cX12_canCome 72 = .ok (.iload_n 2, 1) := by decide +kernel
theorem dX12_canCome_73 : decode cX12_canCome 73 = .ok (.iadd, 1) := by decide +kernel
theorem dX12_canCome_74 : decode cX12_canCome 74 = .ok (.iaload, 1) := by decide +kernel
theorem dX12_canCome_75 : decode cX12_canCome 75 = .ok (.iconst (-1), 1) := by decide +kernel
theorem dX12_canCome_76 : decode cX12_canCome 76 = .ok (.if_icmp .eq 7, 3) := by decide +kernel
theorem dX12_canCome_79 : decode cX12_canCome 79 = .ok (.iconst 1, 1) := by decide +kernel
theorem dX12_canCome_80 : decode cX12_canCome 80 = .ok (.goto 4, 3) := by decide +kernel
theorem dX12_canCome_83 : decode cX12_canCome 83 = .ok (.iconst 0, 1) := by decide +kernel
theorem dX12_canCome_84 : decode cX12_canCome 84 = .ok (.ireturn, 1) := by decide +kernel
set_option maxRecDepth 20000 in
theorem ggX12_safe_X12_isCode : GoodIn wsX12_safe wsX12_isCode := goodIn_r _ [7] (by decide +kernel) (by decide +kernel)
set_option maxRecDepth 20000 in
theorem gX12_safe_X12_isCode : GoodIn wsX12_safe (va_wsS RX12 158 yX12_isCode wsX12_isCode) := goodIn_app (goodIn_of _ (by decide +kernel)) ggX12_safe_X12_isCode
set_option maxRecDepth 20000 in
theorem ggX12_safe_X12_canCome : GoodIn wsX12_safe wsX12_canCome := goodIn_r _ [11, 3, 12, 13, 14, 15, 16, 17, 18, 19, 20, 21, 22, 23, 24, 25, 26, 27, 28, 29, 30, 31, 32, 33, 34, 35, 36, 37, 38, 39, 40, 41, 42, 43, 44, 45, 46, 47, 48, 49, 50, 51] (by decide +kernel) (by decide +kernel)
set_option maxRecDepth 20000 in
theorem gX12_safe_X12_canCome : GoodIn wsX12_safe (wsV RX12 177 RX12 yX12_canCome wsX12_canCome) := goodIn_app (goodIn_of _ (by decide +kernel)) ggX12_safe_X12_canCome
theorem dX12_safe_0 : decode cX12_safe 0 = .ok (.aload_n 0, 1) := by decide +kernel
theorem dX12_safe_1 : decode cX12_safe 1 = .ok (.iconst 0, 1) := by decide +kernel
theorem dX12_safe_2 : decode cX12_safe 2 = .ok (.putfield 85, 3) := by decide +kernel
theorem dX12_safe_5 : decode cX12_safe 5 = .ok (.aload_n 0, 1) := by decide +kernel
theorem dX12_safe_6 : decode cX12_safe 6 = .ok (.iconst (-1), 1) := by decide +kernel
theorem dX12_safe_7 : decode cX12_safe 7 = .ok (.putfield 55, 3) := by decide +kernel
theorem dX12_safe_10 : decode cX12_safe 10 = .ok (.iload_n 1, 1) := by decide +kernel
theorem dX12_safe_11 : decode cX12_safe 11 = .ok (.invokestatic 158, 3) := by decide +kernel
theorem dX12_safe_14 : decode cX12_safe 14 = .ok (.ifCond .eq 10, 3) := by decide +kernel
theorem dX12_safe_17 : decode cX12_safe 17 = .ok (.iload_n 2, 1) := by decide +kernel
theorem dX12_safe_18 : decode cX12_safe 18 = .ok (.invokestatic 158, 3) := by decide +kernel
theorem dX12_safe_21 : decode cX12_safe 21 = .ok (.ifCond .ne 5, 3) := by decide +kernel
theorem dX12_safe_24 : decode cX12_safe 24 = .ok (.iconst (-1), 1) := by decide +kernel
theorem dX12_safe_25 : decode cX12_safe 25 = .ok (.ireturn, 1) := by decide +kernel
theorem dX12_safe_26 : decode cX12_safe 26 = .ok (.iload_n 1, 1) := by decide +kernel
theorem dX12_safe_27 : decode cX12_safe 27 = .ok (.iload_n 2, 1) := by decide +kernel
theorem dX12_safe_28 : decode cX12_safe 28 = .ok (.if_icmp .ne 5, 3) := by decide +kernel
theorem dX12_safe_31 : decode cX12_safe 31 = .ok (.iconst 1, 1) := by decide +kernel
theorem dX12_safe_32 : decode cX12_safe 32 = .ok (.ireturn, 1) := by decide +kernel
theorem dX12_safe_33 : decode cX12_safe 33 = .ok (.iconst 0, 1) := by decide +kernel
theorem dX12_safe_34 : decode cX12_safe 34 = .ok (.istore_n 3, 1) := by decide +kernel
theorem dX12_safe_35 : decode cX12_safe 35 = .ok (.iload_n 3, 1) := by decide +kernel
theorem dX12_safe_36 : decode cX12_safe 36 = .ok (.sipush 256, 3) := by decide +kernel
theorem dX12_safe_39 : decode cX12_safe 39 = .ok (.if_icmp .ge 97, 3) := by decide +kernel
theorem dX12_safe_42 : decode cX12_safe 42 = .ok (.aload_n 0, 1) := by decide +kernel
theorem dX12_safe_43 : decode cX12_safe 43 = .ok (.iload_n 1, 1) := by decide +kernel
theorem dX12_safe_44 : decode cX12_safe 44 = .ok (.iload_n 3, 1) := by decide +kernel
theorem dX12_safe_45 : decode cX12_safe 45 = .ok (.invokevirtual 177, 3) := by decide +kernel
theorem dX12_safe_48 : decode cX12_safe 48 = .ok (.ifCond .ne 6, 3) := by decide +kernel
theorem dX12_safe_51 : decode cX12_safe 51 = .ok (.goto 79, 3) := by decide +kernel
theorem dX12_safe_54 : decode cX12_safe 54 = .ok (.iload_n 2, 1) := by decide +kernel
theorem dX12_safe_55 : decode cX12_safe 55 = .ok (.iconst 1, 1) := by decide +kernel
theorem dX12_safe_56 : decode cX12_safe 56 = .ok (.if_icmp .eq 60, 3) := by decide +kernel
theorem dX12_safe_59 : decode cX12_safe 59 = .ok (.iload_n 2, 1) := by decide +kernel
theorem dX12_safe_60 : decode cX12_safe 60 = .ok (.ifCond .eq 8, 3) := by decide +kernel
theorem dX12_safe_63 : decode cX12_safe 63 = .ok (.iload_n 2, 1) := by decide +kernel
theorem dX12_safe_64 : decode cX12_safe 64 = .ok (.iconst 2, 1) := by decide +kernel
theorem dX12_safe_65 : decode cX12_safe 65 = .ok (.if_icmp .ne 10, 3) := by decide +kernel
theorem dX12_safe_68 : decode cX12_safe 68 = .ok (.iload_n 3, 1) := by decide +kernel
theorem dX12_safe_69 : decode cX12_safe 69 = .ok (.sipush 128, 3) := by decide +kernel
theorem dX12_safe_72 : decode cX12_safe 72 = .ok (.if_icmp .lt 44, 3) := by decide +kernel
theorem dX12_safe_75 : decode cX12_safe 75 = .ok (.iload_n 2, 1) := by decide +kernel
theorem dX12_safe_76 : decode cX12_safe 76 = .ok (.iconst 3, 1) := by decide +kernel
theorem dX12_safe_77 : decode cX12_safe 77 = .ok (.if_icmp .ne 16, 3) := by decide +kernel
theorem dX12_safe_80 : decode cX12_safe 80 = .ok (.iload_n 3, 1) := by decide +kernel
theorem dX12_safe_81 : decode cX12_safe 81 = .ok (.sipush 128, 3) := by decide +kernel
theorem dX12_safe_84 : decode cX12_safe 84 = .ok (.if_icmp .ge 9, 3) := by decide +kernel
theorem dX12_safe_87 : decode cX12_safe 87 = .ok (.iload_n 3, 1) := by decide +kernel
theorem dX12_safe_88 : decode cX12_safe 88 = .ok (.bipush 38, 2) := by decide +kernel
theorem dX12_safe_90 : decode cX12_safe 90 = .ok (.if_icmp .ne 26, 3) := by decide +kernel
theorem dX12_safe_93 : decode cX12_safe 93 = .ok (.iload_n 2, 1) := by decide +kernel
theorem dX12_safe_94 : decode cX12_safe 94 = .ok (.iconst 3, 1) := by decide +kernel
theorem dX12_safe_95 : decode cX12_safe 95 = .ok (.if_icmp .le 25, 3) := by decide +kernel
theorem dX12_safe_98 : decode cX12_safe 98 = .ok (.aload_n 0, 1) := by decide +kernel
theorem dX12_safe_99 : decode cX12_safe 99 = .ok (.getfield 19, 3) := by decide +kernel
theorem dX12_safe_102 : decode cX12_safe 102 = .ok (.sipush 256, 3) := by decide +kernel
theorem dX12_safe_105 : decode cX12_safe 105 = .ok (.iload_n 2, 1) := by decide +kernel
theorem dX12_safe_106 : decode cX12_safe 106 = .ok (.iconst 4, 1) := by decide +kernel
theorem dX12_safe_107 : decode cX12_safe 107 = .ok (.isub, 1) := by decide +kernel
theorem dX12_safe_108 : decode cX12_safe 108 = .ok (.imul, 1) := by decide +kernel
theorem dX12_safe_109 : decode cX12_safe 109 = .ok (.iload_n 3, 1) := by decide +kernel
theorem dX12_safe_110 : decode cX12_safe 110 = .ok (.iadd, 1) := by decide +kernel
theorem dX12_safe_111 : decode cX12_safe 111 = .ok (.iaload, 1) := by decide +kernel
theorem dX12_safe_112 : decode cX12_safe 112 = .ok (.iconst (-1), 1) := by decide +kernel
theorem dX12_safe_113 : decode cX12_safe 113 = .ok (.if_icmp .eq 7, 3) := by decide +kernel
theorem dX12_safe_116 : decode cX12_safe 116 = .ok (.iconst 1, 1) := by decide +kernel
theorem dX12_safe_117 : decode cX12_safe 117 = .ok (.goto 4, 3) := by decide +kernel
theorem dX12_safe_120 : decode cX12_safe 120 = .ok (.iconst 0, 1) := by decide +kernel
theorem dX12_safe_121 : decode cX12_safe 121 = .ok (.istore 4, 2) := by decide +kernel
theorem dX12_safe_123 : decode cX12_safe 123 = .ok (.iload 4, 2) := by decide +kernel
theorem dX12_safe_125 : decode cX12_safe 125 = .ok (.ifCond .ne 5, 3) := by decide +kernel
theorem dX12_safe_128 : decode cX12_safe 128 = .ok (.iconst 0, 1) := by decide +kernel
theorem dX12_safe_129 : decode cX12_safe 129 = .ok (.ireturn, 1) := by decide +kernel
theorem dX12_safe_130 : decode cX12_safe 130 = .ok (.iinc 3 1, 3) := by decide +kernel
theorem dX12_safe_133 : decode cX12_safe 133 = .ok (.goto (-98), 3) := by decide +kernel
theorem dX12_safe_136 : decode cX12_safe 136 = .ok (.iconst 1, 1) := by decide +kernel
theorem dX12_safe_137 : decode cX12_safe 137 = .ok (.ireturn, 1) := by decide +kernel
theorem dX12_back_0 : decode cX12_back 0 = .ok (.aload_n 0, 1) := by decide +kernel
theorem dX12_back_1 : decode cX12_back 1 = .ok (.iconst 0, 1) := by decide +kernel
theorem dX12_back_2 : decode cX12_back 2 = .ok (.putfield 85, 3) := by decide +kernel
theorem dX12_back_5 : decode cX12_back 5 = .ok (.aload_n 0, 1) := by decide +kernel
theorem dX12_back_6 : decode cX12_back 6 = .ok (.getfield 142, 3) := by decide +kernel
theorem dX12_back_9 : decode cX12_back 9 = .ok (.ifCond .ne 5, 3) := by decide +kernel
theorem dX12_back_12 : decode cX12_back 12 = .ok (.iconst (-1), 1) := by decide +kernel
theorem dX12_back_13 : decode cX12_back 13 = .ok (.ireturn, 1) := by decide +kernel
theorem dX12_back_14 : decode cX12_back 14 = .ok (.aload_n 0, 1) := by decide +kernel
theorem dX12_back_15 : decode cX12_back 15 = .ok (.dup, 1) := by decide +kernel
theorem dX12_back_16 : decode cX12_back 16 = .ok (.getfield 142, 3) := by decide +kernel
theorem dX12_back_19 : decode cX12_back 19 = .ok (.iconst 1, 1) := by decide +kernel
theorem dX12_back_20 : decode cX12_back 20 = .ok (.isub, 1) := by decide +kernel
theorem dX12_back_21 : decode cX12_back 21 = .ok (.putfield 142, 3) := by decide +kernel
theorem dX12_back_24 : decode cX12_back 24 = .ok (.iconst 1, 1) := by decide +kernel
theorem dX12_back_25 : decode cX12_back 25 = .ok (.aload_n 0, 1) := by decide +kernel
theorem dX12_back_26 : decode cX12_back 26 = .ok (.getfield 145, 3) := by decide +kernel
theorem dX12_back_29 : decode cX12_back 29 = .ok (.aload_n 0, 1) := by decide +kernel
theorem dX12_back_30 : decode cX12_back 30 = .ok (.getfield 142, 3) := by decide +kernel
theorem dX12_back_33 : decode cX12_back 33 = .ok (.iadd, 1) := by decide +kernel
theorem dX12_back_34 : decode cX12_back 34 = .ok (.bipush 20, 2) := by decide +kernel
theorem dX12_back_36 : decode cX12_back 36 = .ok (.irem, 1) := by decide +kernel
theorem dX12_back_37 : decode cX12_back 37 = .ok (.iadd, 1) := by decide +kernel
theorem dX12_back_38 : decode cX12_back 38 = .ok (.istore_n 1, 1) := by decide +kernel
theorem dX12_back_39 : decode cX12_back 39 = .ok (.aload_n 0, 1) := by decide +kernel
theorem dX12_back_40 : decode cX12_back 40 = .ok (.getfield 13, 3) := by decide +kernel
theorem dX12_back_43 : decode cX12_back 43 = .ok (.iconst 0, 1) := by decide +kernel
theorem dX12_back_44 : decode cX12_back 44 = .ok (.aload_n 0, 1) := by decide +kernel
theorem dX12_back_45 : decode cX12_back 45 = .ok (.getfield 13, 3) := by decide +kernel
theorem dX12_back_48 : decode cX12_back 48 = .ok (.iload_n 1, 1) := by decide +kernel
theorem dX12_back_49 : decode cX12_back 49 = .ok (.iaload, 1) := by decide +kernel
theorem dX12_back_50 : decode cX12_back 50 = .ok (.iastore, 1) := by decide +kernel
theorem dX12_back_51 : decode cX12_back 51 = .ok (.iconst 0, 1) := by decide +kernel
theorem dX12_back_52 : decode cX12_back 52 = .ok (.istore_n 2, 1) := by decide +kernel
theorem dX12_back_53 : decode cX12_back 53 = .ok (.iload_n 2, 1) := by decide +kernel
theorem dX12_back_54 : decode cX12_back 54 = .ok (.aload_n 0, 1) := by decide +kernel
theorem dX12_back_55 : decode cX12_back 55 = .ok (.getfield 13, 3) := by decide +kernel
theorem dX12_back_58 : decode cX12_back 58 = .ok (.iconst 0, 1) := by decide +kernel
theorem dX12_back_59 : decode cX12_back 59 = .ok (.iaload, 1) := by decide +kernel
theorem dX12_back_60 : decode cX12_back 60 = .ok (.if_icmp .ge 27, 3) := by decide +kernel
theorem dX12_back_63 : decode cX12_back 63 = .ok (.aload_n 0, 1) := by decide +kernel
theorem dX12_back_64 : decode cX12_back 64 = .ok (.getfield 16, 3) := by decide +kernel
theorem dX12_back_67 : decode cX12_back 67 = .ok (.iload_n 2, 1) := by decide +kernel
theorem dX12_back_68 : decode cX12_back 68 = .ok (.aload_n 0, 1) := by decide +kernel
theorem dX12_back_69 : decode cX12_back 69 = .ok (.getfield 16, 3) := by decide +kernel
theorem dX12_back_72 : decode cX12_back 72 = .ok (.sipush 300, 3) := by decide +kernel
theorem dX12_back_75 : decode cX12_back 75 = .ok (.iload_n 1, 1) := by decide +kernel
theorem dX12_back_76 : decode cX12_back 76 = .ok (.imul, 1) := by decide +kernel
theorem dX12_back_77 : decode cX12_back 77 = .ok (.iload_n 2, 1) := by decide +kernel
theorem dX12_back_78 : decode cX12_back 78 = .ok (.iadd, 1) := by decide +kernel
theorem dX12_back_79 : decode cX12_back 79 = .ok (.iaload, 1) := by decide +kernel
theorem dX12_back_80 : decode cX12_back 80 = .ok (.iastore, 1) := by decide +kernel
theorem dX12_back_81 : decode cX12_back 81 = .ok (.iinc 2 1, 3) := by decide +kernel
theorem dX12_back_84 : decode cX12_back 84 = .ok (.goto (-31), 3) := by decide +kernel
theorem dX12_back_87 : decode cX12_back 87 = .ok (.aload_n 0, 1) := by decide +kernel
theorem dX12_back_88 : decode cX12_back 88 = .ok (.dup, 1) := by decide +kernel
theorem dX12_back_89 : decode cX12_back 89 = .ok (.getfield 148, 3) := by decide +kernel
theorem dX12_back_92 : decode cX12_back 92 = .ok (.iconst 1, 1) := by decide +kernel
theorem dX12_back_93 : decode cX12_back 93 = .ok (.iadd, 1) := by decide +kernel
theorem dX12_back_94 : decode cX12_back 94 = .ok (.putfield 148, 3) := by decide +kernel
theorem dX12_back_97 : decode cX12_back 97 = .ok (.aload_n 0, 1) := by decide +kernel
theorem dX12_back_98 : decode cX12_back 98 = .ok (.getfield 142, 3) := by decide +kernel
theorem dX12_back_101 : decode cX12_back 101 = .ok (.ireturn, 1) := by decide +kernel
set_option maxRecDepth 20000 in
theorem ggX12_list_X12_isCode : GoodIn wsX12_list wsX12_isCode := goodIn_r _ [10] (by decide +kernel) (by decide +kernel)
set_option maxRecDepth 20000 in
theorem gX12_list_X12_isCode : GoodIn wsX12_list (va_wsS RX12 158 yX12_isCode wsX12_isCode) := goodIn_app (goodIn_of _ (by decide +kernel)) ggX12_list_X12_isCode
theorem dX12_list_0 : decode cX12_list 0 = .ok (.aload_n 0, 1) := by decide +kernel
theorem dX12_list_1 : decode cX12_list 1 = .ok (.iconst 0, 1) := by decide +kernel
theorem dX12_list_2 : decode cX12_list 2 = .ok (.putfield 85, 3) := by decide +kernel
theorem dX12_list_5 : decode cX12_list 5 = .ok (.aload_n 0, 1) := by decide +kernel
theorem dX12_list_6 : decode cX12_list 6 = .ok (.iconst (-1), 1) := by decide +kernel
theorem dX12_list_7 : decode cX12_list 7 = .ok (.putfield 55, 3) := by decide +kernel
theorem dX12_list_10 : decode cX12_list 10 = .ok (.iload_n 1, 1) := by decide +kernel
theorem dX12_list_11 : decode cX12_list 11 = .ok (.invokestatic 158, 3) := by decide +kernel
theorem dX12_list_14 : decode cX12_list 14 = .ok (.ifCond .eq 19, 3) := by decide +kernel
theorem dX12_list_17 : decode cX12_list 17 = .ok (.iload_n 2, 1) := by decide +kernel
theorem dX12_list_18 : decode cX12_list 18 = .ok (.invokestatic 158, 3) := by decide +kernel
theorem dX12_list_21 : decode cX12_list 21 = .ok (.ifCond .eq 12, 3) := by decide +kernel
theorem dX12_list_24 : decode cX12_list 24 = .ok (.aload_n 0, 1) := by decide +kernel
theorem dX12_list_25 : decode cX12_list 25 = .ok (.getfield 161, 3) := by decide +kernel
theorem dX12_list_28 : decode cX12_list 28 = .ok (.bipush 6, 2) := by decide +kernel
theorem dX12_list_30 : decode cX12_list 30 = .ok (.if_icmp .ne 5, 3) := by decide +kernel
theorem dX12_list_33 : decode cX12_list 33 = .ok (.iconst (-1), 1) := by decide +kernel
theorem dX12_list_34 : decode cX12_list 34 = .ok (.ireturn, 1) := by decide +kernel
theorem dX12_list_35 : decode cX12_list 35 = .ok (.iconst 0, 1) := by decide +kernel
theorem dX12_list_36 : decode cX12_list 36 = .ok (.istore_n 3, 1) := by decide +kernel
theorem dX12_list_37 : decode cX12_list 37 = .ok (.iload_n 3, 1) := by decide +kernel
theorem dX12_list_38 : decode cX12_list 38 = .ok (.aload_n 0, 1) := by decide +kernel
theorem dX12_list_39 : decode cX12_list 39 = .ok (.getfield 161, 3) := by decide +kernel
theorem dX12_list_42 : decode cX12_list 42 = .ok (.if_icmp .ge 31, 3) := by decide +kernel
theorem dX12_list_45 : decode cX12_list 45 = .ok (.aload_n 0, 1) := by decide +kernel
theorem dX12_list_46 : decode cX12_list 46 = .ok (.getfield 30, 3) := by decide +kernel
theorem dX12_list_49 : decode cX12_list 49 = .ok (.iload_n 3, 1) := by decide +kernel
theorem dX12_list_50 : decode cX12_list 50 = .ok (.iaload, 1) := by decide +kernel
theorem dX12_list_51 : decode cX12_list 51 = .ok (.iload_n 1, 1) := by decide +kernel
theorem dX12_list_52 : decode cX12_list 52 = .ok (.if_icmp .ne 15, 3) := by decide +kernel
theorem dX12_list_55 : decode cX12_list 55 = .ok (.aload_n 0, 1) := by decide +kernel
theorem dX12_list_56 : decode cX12_list 56 = .ok (.getfield 33, 3) := by decide +kernel
theorem dX12_list_59 : decode cX12_list 59 = .ok (.iload_n 3, 1) := by decide +kernel
theorem dX12_list_60 : decode cX12_list 60 = .ok (.iaload, 1) := by decide +kernel
theorem dX12_list_61 : decode cX12_list 61 = .ok (.iload_n 2, 1) := by decide +kernel
theorem dX12_list_62 : decode cX12_list 62 = .ok (.if_icmp .ne 5, 3) := by decide +kernel
theorem dX12_list_65 : decode cX12_list 65 = .ok (.iconst (-1), 1) := by decide +kernel
theorem dX12_list_66 : decode cX12_list 66 = .ok (.ireturn, 1) := by decide +kernel
theorem dX12_list_67 : decode cX12_list 67 = .ok (.iinc 3 1, 3) := by decide +kernel
theorem dX12_list_70 : decode cX12_list 70 = .ok (.goto (-33), 3) := by decide +kernel
theorem dX12_list_73 : decode cX12_list 73 = .ok (.aload_n 0, 1) := by decide +kernel
theorem dX12_list_74 : decode cX12_list 74 = .ok (.getfield 30, 3) := by decide +kernel
theorem dX12_list_77 : decode cX12_list 77 = .ok (.aload_n 0, 1) := by decide +kernel
theorem dX12_list_78 : decode cX12_list 78 = .ok (.getfield 161, 3) := by decide +kernel
theorem dX12_list_81 : decode cX12_list 81 = .ok (.iload_n 1, 1) := by decide +kernel
theorem dX12_list_82 : decode cX12_list 82 = .ok (.iastore, 1) := by decide +kernel
theorem dX12_list_83 : decode cX12_list 83 = .ok (.aload_n 0, 1) := by decide +kernel
theorem dX12_list_84 : decode cX12_list 84 = .ok (.getfield 33, 3) := by decide +kernel
theorem dX12_list_87 : decode cX12_list 87 = .ok (.aload_n 0, 1) := by decide +kernel
theorem dX12_list_88 : decode cX12_list 88 = .ok (.getfield 161, 3) := by decide +kernel
theorem dX12_list_91 : decode cX12_list 91 = .ok (.iload_n 2, 1) := by decide +kernel
theorem dX12_list_92 : decode cX12_list 92 = .ok (.iastore, 1) := by decide +kernel
theorem dX12_list_93 : decode cX12_list 93 = .ok (.aload_n 0, 1) := by decide +kernel
theorem dX12_list_94 : decode cX12_list 94 = .ok (.dup, 1) := by decide +kernel
theorem dX12_list_95 : decode cX12_list 95 = .ok (.getfield 161, 3) := by decide +kernel
theorem dX12_list_98 : decode cX12_list 98 = .ok (.iconst 1, 1) := by decide +kernel
theorem dX12_list_99 : decode cX12_list 99 = .ok (.iadd, 1) := by decide +kernel
theorem dX12_list_100 : decode cX12_list 100 = .ok (.putfield 161, 3) := by decide +kernel
theorem dX12_list_103 : decode cX12_list 103 = .ok (.aload_n 0, 1) := by decide +kernel
theorem dX12_list_104 : decode cX12_list 104 = .ok (.dup, 1) := by decide +kernel
theorem dX12_list_105 : decode cX12_list 105 = .ok (.getfield 148, 3) := by decide +kernel
theorem dX12_list_108 : decode cX12_list 108 = .ok (.iconst 1, 1) := by decide +kernel
theorem dX12_list_109 : decode cX12_list 109 = .ok (.iadd, 1) := by decide +kernel
theorem dX12_list_110 : decode cX12_list 110 = .ok (.putfield 148, 3) := by decide +kernel
theorem dX12_list_113 : decode cX12_list 113 = .ok (.aload_n 0, 1) := by decide +kernel
theorem dX12_list_114 : decode cX12_list 114 = .ok (.getfield 161, 3) := by decide +kernel
theorem dX12_list_117 : decode cX12_list 117 = .ok (.iconst 1, 1) := by decide +kernel
theorem dX12_list_118 : decode cX12_list 118 = .ok (.isub, 1) := by decide +kernel
theorem dX12_list_119 : decode cX12_list 119 = .ok (.ireturn, 1) := by decide +kernel
theorem dX12_unlist_0 : decode cX12_unlist 0 = .ok (.aload_n 0, 1) := by decide +kernel
theorem dX12_unlist_1 : decode cX12_unlist 1 = .ok (.iconst 0, 1) := by decide +kernel
theorem dX12_unlist_2 : decode cX12_unlist 2 = .ok (.putfield 85, 3) := by decide +kernel
theorem dX12_unlist_5 : decode cX12_unlist 5 = .ok (.aload_n 0, 1) := by decide +kernel
theorem dX12_unlist_6 : decode cX12_unlist 6 = .ok (.getfield 161, 3) := by decide +kernel
theorem dX12_unlist_9 : decode cX12_unlist 9 = .ok (.istore_n 1, 1) := by decide +kernel
theorem dX12_unlist_10 : decode cX12_unlist 10 = .ok (.aload_n 0, 1) := by decide +kernel
theorem dX12_unlist_11 : decode cX12_unlist 11 = .ok (.iconst 0, 1) := by decide +kernel
theorem dX12_unlist_12 : decode cX12_unlist 12 = .ok (.putfield 161, 3) := by decide +kernel
theorem dX12_unlist_15 : decode cX12_unlist 15 = .ok (.aload_n 0, 1) := by decide +kernel
theorem dX12_unlist_16 : decode cX12_unlist 16 = .ok (.dup, 1) := by decide +kernel
theorem dX12_unlist_17 : decode cX12_unlist 17 = .ok (.getfield 148, 3) := by decide +kernel
theorem dX12_unlist_20 : decode cX12_unlist 20 = .ok (.iconst 1, 1) := by decide +kernel
theorem dX12_unlist_21 : decode cX12_unlist 21 = .ok (.iadd, 1) := by decide +kernel
theorem dX12_unlist_22 : decode cX12_unlist 22 = .ok (.putfield 148, 3) := by decide +kernel
theorem dX12_unlist_25 : decode cX12_unlist 25 = .ok (.iload_n 1, 1) := by decide +kernel
theorem dX12_unlist_26 : decode cX12_unlist 26 = .ok (.ireturn, 1) := by decide +kernel
set_option maxRecDepth 20000 in
theorem ggX12_makes_X12_takeText : GoodIn wsX12_makes wsX12_takeText := goodIn_r _ [8, 9, 10, 11, 12, 64, 65, 66, 67, 68, 69, 70, 71, 72, 73, 74, 75, 76, 77, 78, 79, 80, 81, 82, 83, 84, 85, 86, 87, 88, 89, 90, 91, 92, 93, 94, 95, 96, 97, 98, 99, 100, 101, 102, 103] (by decide +kernel) (by decide +kernel)
set_option maxRecDepth 20000 in
theorem gX12_makes_X12_takeText : GoodIn wsX12_makes (wsV RX12 171 RX12 yX12_takeText wsX12_takeText) := goodIn_app (goodIn_of _ (by decide +kernel)) ggX12_makes_X12_takeText
set_option maxRecDepth 20000 in
theorem ggX12_makes_X12_undoes : GoodIn wsX12_makes wsX12_undoes := goodIn_r _ [16, 11, 10, 17, 18, 19, 20, 21, 22, 23, 7, 24, 25, 26, 27, 28, 29, 30, 31, 32, 33, 34, 35, 36, 37, 38, 39, 40, 41, 42, 43, 44, 45, 46, 47, 48, 49, 50, 51, 52, 53, 54, 55, 56, 57, 58, 59, 60, 61, 62, 63, 64, 65, 66, 67, 68, 69, 70, 71, 72, 73, 74, 75, 76, 77, 78, 79, 80, 81, 82, 83, 84, 85, 86, 87, 88, 89, 90, 91, 92, 93, 94, 95, 96, 97, 98, 99, 100, 101, 102, 103] (by decide +kernel) (by decide +kernel)
set_option maxRecDepth 20000 in
theorem gX12_makes_X12_undoes : GoodIn wsX12_makes (wsV RX12 174 RX12 yX12_undoes wsX12_undoes) := goodIn_app (goodIn_of _ (by decide +kernel)) ggX12_makes_X12_undoes
theorem dX12_makes_0 : decode cX12_makes 0 = .ok (.aload_n 0, 1) := by decide +kernel
theorem dX12_makes_1 : decode cX12_makes 1 = .ok (.invokevirtual 171, 3) := by decide +kernel
theorem dX12_makes_4 : decode cX12_makes 4 = .ok (.iload_n 1, 1) := by decide +kernel
theorem dX12_makes_5 : decode cX12_makes 5 = .ok (.istore_n 3, 1) := by decide +kernel
theorem dX12_makes_6 : decode cX12_makes 6 = .ok (.iconst 0, 1) := by decide +kernel
theorem dX12_makes_7 : decode cX12_makes 7 = .ok (.istore 4, 2) := by decide +kernel
theorem dX12_makes_9 : decode cX12_makes 9 = .ok (.iload 4, 2) := by decide +kernel
theorem dX12_makes_11 : decode cX12_makes 11 = .ok (.iload_n 2, 1) := by decide +kernel
theorem dX12_makes_12 : decode cX12_makes 12 = .ok (.if_icmp .ge 47, 3) := by decide +kernel
theorem dX12_makes_15 : decode cX12_makes 15 = .ok (.iload_n 3, 1) := by decide +kernel
theorem dX12_makes_16 : decode cX12_makes 16 = .ok (.aload_n 0, 1) := by decide +kernel
theorem dX12_makes_17 : decode cX12_makes 17 = .ok (.getfield 161, 3) := by decide +kernel
theorem dX12_makes_20 : decode cX12_makes 20 = .ok (.irem, 1) := by decide +kernel
theorem dX12_makes_21 : decode cX12_makes 21 = .ok (.istore 5, 2) := by decide +kernel
theorem dX12_makes_23 : decode cX12_makes 23 = .ok (.iload_n 3, 1) := by decide +kernel
theorem dX12_makes_24 : decode cX12_makes 24 = .ok (.aload_n 0, 1) := by decide +kernel
theorem dX12_makes_25 : decode cX12_makes 25 = .ok (.getfield 161, 3) := by decide +kernel
theorem dX12_makes_28 : decode cX12_makes 28 = .ok (.idiv, 1) := by decide +kernel
theorem dX12_makes_29 : decode cX12_makes 29 = .ok (.istore_n 3, 1) := by decide +kernel
theorem dX12_makes_30 : decode cX12_makes 30 = .ok (.aload_n 0, 1) := by decide +kernel
theorem dX12_makes_31 : decode cX12_makes 31 = .ok (.aload_n 0, 1) := by decide +kernel
theorem dX12_makes_32 : decode cX12_makes 32 = .ok (.getfield 30, 3) := by decide +kernel
theorem dX12_makes_35 : decode cX12_makes 35 = .ok (.iload 5, 2) := by decide +kernel
theorem dX12_makes_37 : decode cX12_makes 37 = .ok (.iaload, 1) := by decide +kernel
theorem dX12_makes_38 : decode cX12_makes 38 = .ok (.aload_n 0, 1) := by decide +kernel
theorem dX12_makes_39 : decode cX12_makes 39 = .ok (.getfield 33, 3) := by decide +kernel
theorem dX12_makes_42 : decode cX12_makes 42 = .ok (.iload 5, 2) := by decide +kernel
theorem dX12_makes_44 : decode cX12_makes 44 = .ok (.iaload, 1) := by decide +kernel
theorem dX12_makes_45 : decode cX12_makes 45 = .ok (.invokevirtual 174, 3) := by decide +kernel
theorem dX12_makes_48 : decode cX12_makes 48 = .ok (.ifCond .ne 5, 3) := by decide +kernel
theorem dX12_makes_51 : decode cX12_makes 51 = .ok (.iconst 0, 1) := by decide +kernel
theorem dX12_makes_52 : decode cX12_makes 52 = .ok (.ireturn, 1) := by decide +kernel
theorem dX12_makes_53 : decode cX12_makes 53 = .ok (.iinc 4 1, 3) := by decide +kernel
theorem dX12_makes_56 : decode cX12_makes 56 = .ok (.goto (-47), 3) := by decide +kernel
theorem dX12_makes_59 : decode cX12_makes 59 = .ok (.iconst 1, 1) := by decide +kernel
theorem dX12_makes_60 : decode cX12_makes 60 = .ok (.ireturn, 1) := by decide +kernel
theorem dX12_power_0 : decode cX12_power 0 = .ok (.iconst 1, 1) := by decide +kernel
theorem dX12_power_1 : decode cX12_power 1 = .ok (.istore_n 2, 1) := by decide +kernel
theorem dX12_power_2 : decode cX12_power 2 = .ok (.iconst 0, 1) := by decide +kernel
theorem dX12_power_3 : decode cX12_power 3 = .ok (.istore_n 3, 1) := by decide +kernel
theorem dX12_power_4 : decode cX12_power 4 = .ok (.iload_n 3, 1) := by decide +kernel
theorem dX12_power_5 : decode cX12_power 5 = .ok (.iload_n 1, 1) := by decide +kernel
theorem dX12_power_6 : decode cX12_power 6 = .ok (.if_icmp .ge 13, 3) := by decide +kernel
theorem dX12_power_9 : decode cX12_power 9 = .ok (.iload_n 2, 1) := by decide +kernel
theorem dX12_power_10 : decode cX12_power 10 = .ok (.iload_n 0, 1) := by decide +kernel
theorem dX12_power_11 : decode cX12_power 11 = .ok (.imul, 1) := by decide +kernel
theorem dX12_power_12 : decode cX12_power 12 = .ok (.istore_n 2, 1) := by decide +kernel
theorem dX12_power_13 : decode cX12_power 13 = .ok (.iinc 3 1, 3) := by decide +kernel
theorem dX12_power_16 : decode cX12_power 16 = .ok (.goto (-12), 3) := by decide +kernel
theorem dX12_power_19 : decode cX12_power 19 = .ok (.iload_n 2, 1) := by decide +kernel
theorem dX12_power_20 : decode cX12_power 20 = .ok (.ireturn, 1) := by decide +kernel
set_option maxRecDepth 20000 in
theorem ggX12_rows_X12_power : GoodIn wsX12_rows wsX12_power := goodIn_r _ [11] (by decide +kernel) (by decide +kernel)
set_option maxRecDepth 20000 in
theorem gX12_rows_X12_power : GoodIn wsX12_rows (va_wsS RX12 183 yX12_power wsX12_power) := goodIn_app (goodIn_of _ (by decide +kernel)) ggX12_rows_X12_power
set_option maxRecDepth 20000 in
theorem ggX12_rows_X12_makes : GoodIn wsX12_rows wsX12_makes := goodIn_r _ [15, 4, 16, 17, 18, 19, 20, 10, 21, 22, 7, 6, 23, 24, 25, 26, 27, 28, 29, 30, 31, 32, 33, 34, 35, 36, 37, 38, 39, 40, 41, 42, 43, 44, 45, 46, 47, 48, 49, 50, 51, 52, 53, 54, 55, 56, 57, 58, 59, 60, 61, 62, 63, 64, 65, 66, 67, 68, 69, 70, 71, 72, 73, 74, 90, 91, 92, 93, 94, 95, 96, 97, 98, 99, 100, 101, 102, 103, 104, 105, 106, 107, 108, 109, 110, 111, 112, 113, 114, 115, 116, 117, 118, 119, 120, 121, 122, 123, 124, 125, 126, 127, 128, 129] (by decide +kernel) (by decide +kernel)
set_option maxRecDepth 20000 in
theorem gX12_rows_X12_makes : GoodIn wsX12_rows (wsV RX12 186 RX12 yX12_makes wsX12_makes) := goodIn_app (goodIn_of _ (by decide +kernel)) ggX12_rows_X12_makes
set_option maxRecDepth 20000 in
theorem ggX12_rows_X12_costOf_ : GoodIn wsX12_rows wsX12_costOf_ := goodIn_r _ [78, 79, 80, 81, 10, 82, 83, 84, 85, 86, 87, 88, 89, 90, 91, 92, 93, 94, 95, 96, 97, 98, 99, 100, 101, 102, 103, 104, 105, 106, 107, 108, 109, 110, 111, 112, 113, 114, 115, 116, 117, 118, 119, 120, 121, 122, 123, 124, 125, 126, 127, 128, 129] (by decide +kernel) (by decide +kernel)
set_option maxRecDepth 20000 in
theorem gX12_rows_X12_costOf_ : GoodIn wsX12_rows (wsV RX12 189 RX12 yX12_costOf_ wsX12_costOf_) := goodIn_app (goodIn_of _ (by decide +kernel)) ggX12_rows_X12_costOf_
theorem dX12_rows_0 : decode cX12_rows 0 = .ok (.aload_n 0, 1) := by decide +kernel
theorem dX12_rows_1 : decode cX12_rows 1 = .ok (.iconst 0, 1) := by decide +kernel
theorem dX12_rows_2 : decode cX12_rows 2 = .ok (.putfield 85, 3) := by decide +kernel
theorem dX12_rows_5 : decode cX12_rows 5 = .ok (.aload_n 0, 1) := by decide +kernel
theorem dX12_rows_6 : decode cX12_rows 6 = .ok (.iconst (-1), 1) := by decide +kernel
theorem dX12_rows_7 : decode cX12_rows 7 = .ok (.putfield 55, 3) := by decide +kernel
theorem dX12_rows_10 : decode cX12_rows 10 = .ok (.iload_n 1, 1) := by decide +kernel
theorem dX12_rows_11 : decode cX12_rows 11 = .ok (.iconst 1, 1) := by decide +kernel
theorem dX12_rows_12 : decode cX12_rows 12 = .ok (.if_icmp .lt 8, 3) := by decide +kernel
theorem dX12_rows_15 : decode cX12_rows 15 = .ok (.iload_n 1, 1) := by decide +kernel
theorem dX12_rows_16 : decode cX12_rows 16 = .ok (.iconst 3, 1) := by decide +kernel
theorem dX12_rows_17 : decode cX12_rows 17 = .ok (.if_icmp .le 5, 3) := by decide +kernel
theorem dX12_rows_20 : decode cX12_rows 20 = .ok (.iconst (-1), 1) := by decide +kernel
theorem dX12_rows_21 : decode cX12_rows 21 = .ok (.ireturn, 1) := by decide +kernel
theorem dX12_rows_22 : decode cX12_rows 22 = .ok (.aload_n 0, 1) := by decide +kernel
theorem dX12_rows_23 : decode cX12_rows 23 = .ok (.iconst 0, 1) := by decide +kernel
theorem dX12_rows_24 : decode cX12_rows 24 = .ok (.putfield 180, 3) := by decide +kernel
theorem dX12_rows_27 : decode cX12_rows 27 = .ok (.iconst 1, 1) := by decide +kernel
theorem dX12_rows_28 : decode cX12_rows 28 = .ok (.istore_n 2, 1) := by decide +kernel
theorem dX12_rows_29 : decode cX12_rows 29 = .ok (.iload_n 2, 1) := by decide +kernel
theorem dX12_rows_30 : decode cX12_rows 30 = .ok (.iload_n 1, 1) := by decide +kernel
theorem dX12_rows_31 : decode cX12_rows 31 = .ok (.if_icmp .gt 177, 3) := by decide +kernel
theorem dX12_rows_34 : decode cX12_rows 34 = .ok (.aload_n 0, 1) := by decide +kernel
theorem dX12_rows_35 : decode cX12_rows 35 = .ok (.getfield 161, 3) := by decide +kernel
theorem dX12_rows_38 : decode cX12_rows 38 = .ok (.ifCond .ne 7, 3) := by decide +kernel
theorem dX12_rows_41 : decode cX12_rows 41 = .ok (.iconst 0, 1) := by decide +kernel
theorem dX12_rows_42 : decode cX12_rows 42 = .ok (.goto 11, 3) := by decide +kernel
theorem dX12_rows_45 : decode cX12_rows 45 = .ok (.aload_n 0, 1) := by decide +kernel
theorem dX12_rows_46 : decode cX12_rows 46 = .ok (.getfield 161, 3) := by decide +kernel
theorem dX12_rows_49 : decode cX12_rows 49 = .ok (.iload_n 2, 1) := by decide +kernel
theorem dX12_rows_50 : decode cX12_rows 50 = .ok (.invokestatic 183, 3) := by decide +kernel
theorem dX12_rows_53 : decode cX12_rows 53 = .ok (.istore_n 3, 1) := by decide +kernel
theorem dX12_rows_54 : decode cX12_rows 54 = .ok (.iconst 0, 1) := by decide +kernel
theorem dX12_rows_55 : decode cX12_rows 55 = .ok (.istore 4, 2) := by decide +kernel
theorem dX12_rows_57 : decode cX12_rows 57 = .ok (.iload 4, 2) := by decide +kernel
theorem dX12_rows_59 : decode cX12_rows 59 = .ok (.iload_n 3, 1) := by decide +kernel
theorem dX12_rows_60 : decode cX12_rows 60 = .ok (.if_icmp .ge 142, 3) := by decide +kernel
theorem dX12_rows_63 : decode cX12_rows 63 = .ok (.aload_n 0, 1) := by decide +kernel
theorem dX12_rows_64 : decode cX12_rows 64 = .ok (.iload 4, 2) := by decide +kernel
theorem dX12_rows_66 : decode cX12_rows 66 = .ok (.iload_n 2, 1) := by decide +kernel
theorem dX12_rows_67 : decode cX12_rows 67 = .ok (.invokevirtual 186, 3) := by decide +kernel
theorem dX12_rows_70 : decode cX12_rows 70 = .ok (.ifCond .ne 6, 3) := by decide +kernel
theorem dX12_rows_73 : decode cX12_rows 73 = .ok (.goto 123, 3) := by decide +kernel
theorem dX12_rows_76 : decode cX12_rows 76 = .ok (.bipush 6, 2) := by decide +kernel
theorem dX12_rows_78 : decode cX12_rows 78 = .ok (.aload_n 0, 1) := by decide +kernel
theorem dX12_rows_79 : decode cX12_rows 79 = .ok (.getfield 180, 3) := by decide +kernel
theorem dX12_rows_82 : decode cX12_rows 82 = .ok (.imul, 1) := by decide +kernel
theorem dX12_rows_83 : decode cX12_rows 83 = .ok (.istore 5, 2) := by decide +kernel
theorem dX12_rows_85 : decode cX12_rows 85 = .ok (.aload_n 0, 1) := by decide +kernel
theorem dX12_rows_86 : decode cX12_rows 86 = .ok (.getfield 36, 3) := by decide +kernel
theorem dX12_rows_89 : decode cX12_rows 89 = .ok (.iload 5, 2) := by decide +kernel
theorem dX12_rows_91 : decode cX12_rows 91 = .ok (.iload_n 2, 1) := by decide +kernel
theorem dX12_rows_92 : decode cX12_rows 92 = .ok (.iastore, 1) := by decide +kernel
theorem dX12_rows_93 : decode cX12_rows 93 = .ok (.iconst 0, 1) := by decide +kernel
theorem dX12_rows_94 : decode cX12_rows 94 = .ok (.istore 6, 2) := by decide +kernel
theorem dX12_rows_96 : decode cX12_rows 96 = .ok (.iload 6, 2) := by decide +kernel
theorem dX12_rows_98 : decode cX12_rows 98 = .ok (.iconst 3, 1) := by decide +kernel
theorem dX12_rows_99 : decode cX12_rows 99 = .ok (.if_icmp .ge 52, 3) := by decide +kernel
theorem dX12_rows_102 : decode cX12_rows 102 = .ok (.aload_n 0, 1) := by decide +kernel
theorem dX12_rows_103 : decode cX12_rows 103 = .ok (.getfield 36, 3) := by decide +kernel
theorem dX12_rows_106 : decode cX12_rows 106 = .ok (.iload 5, 2) := by decide +kernel
theorem dX12_rows_108 : decode cX12_rows 108 = .ok (.iconst 1, 1) := by decide +kernel
theorem dX12_rows_109 : decode cX12_rows 109 = .ok (.iadd, 1) := by decide +kernel
theorem dX12_rows_110 : decode cX12_rows 110 = .ok (.iload 6, 2) := by decide +kernel
theorem dX12_rows_112 : decode cX12_rows 112 = .ok (.iadd, 1) := by decide +kernel
theorem dX12_rows_113 : decode cX12_rows 113 = .ok (.iload 6, 2) := by decide +kernel
theorem dX12_rows_115 : decode cX12_rows 115 = .ok (.iload_n 2, 1) := by decide +kernel
theorem dX12_rows_116 : decode cX12_rows 116 = .ok (.if_icmp .ge 27, 3) := by decide +kernel
theorem dX12_rows_119 : decode cX12_rows 119 = .ok (.iload 4, 2) := by decide +kernel
theorem dX12_rows_121 : decode cX12_rows 121 = .ok (.aload_n 0, 1) := by decide +kernel
theorem dX12_rows_122 : decode cX12_rows 122 = .ok (.getfield 161, 3) := by decide +kernel
theorem dX12_rows_125 : decode cX12_rows 125 = .ok (.iload_n 2, 1) := by decide +kernel
theorem dX12_rows_126 : decode cX12_rows 126 = .ok (.iconst 1, 1) := by decide +kernel
theorem dX12_rows_127 : decode cX12_rows 127 = .ok (.isub, 1) := by decide +kernel
theorem dX12_rows_128 : decode cX12_rows 128 = .ok (.iload 6, 2) := by decide +kernel
theorem dX12_rows_130 : decode cX12_rows 130 = .ok (.isub, 1) := by decide +kernel
theorem dX12_rows_131 : decode cX12_rows 131 = .ok (.invokestatic 183, 3) := by decide +kernel
theorem dX12_rows_134 : decode cX12_rows 134 = .ok (.idiv, 1) := by decide +kernel
theorem dX12_rows_135 : decode cX12_rows 135 = .ok (.aload_n 0, 1) := by decide +kernel
theorem dX12_rows_136 : decode cX12_rows 136 = .ok (.getfield 161, 3) := by decide +kernel
theorem dX12_rows_139 : decode cX12_rows 139 = .ok (.irem, 1) := by decide +kernel
theorem dX12_rows_140 : decode cX12_rows 140 = .ok (.goto 4, 3) := by decide +kernel
theorem dX12_rows_143 : decode cX12_rows 143 = .ok (.iconst (-1), 1) := by decide +kernel
theorem dX12_rows_144 : decode cX12_rows 144 = .ok (.iastore, 1) := by decide +kernel
theorem dX12_rows_145 : decode cX12_rows 145 = .ok (.iinc 6 1, 3) := by decide +kernel
theorem dX12_rows_148 : decode cX12_rows 148 = .ok (.goto (-52), 3) := by decide +kernel
theorem dX12_rows_151 : decode cX12_rows 151 = .ok (.aload_n 0, 1) := by decide +kernel
theorem dX12_rows_152 : decode cX12_rows 152 = .ok (.getfield 36, 3) := by decide +kernel
theorem dX12_rows_155 : decode cX12_rows 155 = .ok (.iload 5, 2) := by decide +kernel
theorem dX12_rows_157 : decode cX12_rows 157 = .ok (.iconst 4, 1) := by decide +kernel
theorem dX12_rows_158 : decode cX12_rows 158 = .ok (.iadd, 1) := by decide +kernel
theorem dX12_rows_159 : decode cX12_rows 159 = .ok (.aload_n 0, 1) := by decide +kernel
theorem dX12_rows_160 : decode cX12_rows 160 = .ok (.aload_n 0, 1) := by decide +kernel
theorem dX12_rows_161 : decode cX12_rows 161 = .ok (.getfield 64, 3) := by decide +kernel
theorem dX12_rows_164 : decode cX12_rows 164 = .ok (.iconst 0, 1) := by decide +kernel
theorem dX12_rows_165 : decode cX12_rows 165 = .ok (.aload_n 0, 1) := by decide +kernel
theorem dX12_rows_166 : decode cX12_rows 166 = .ok (.getfield 135, 3) := by decide +kernel
theorem dX12_rows_169 : decode cX12_rows 169 = .ok (.invokevirtual 189, 3) := by decide +kernel
theorem dX12_rows_172 : decode cX12_rows 172 = .ok (.iastore, 1) := by decide +kernel
theorem dX12_rows_173 : decode cX12_rows 173 = .ok (.aload_n 0, 1) := by decide +kernel
theorem dX12_rows_174 : decode cX12_rows 174 = .ok (.getfield 36, 3) := by decide +kernel
theorem dX12_rows_177 : decode cX12_rows 177 = .ok (.iload 5, 2) := by decide +kernel
theorem dX12_rows_179 : decode cX12_rows 179 = .ok (.iconst 5, 1) := by decide +kernel
theorem dX12_rows_180 : decode cX12_rows 180 = .ok (.iadd, 1) := by decide +kernel
theorem dX12_rows_181 : decode cX12_rows 181 = .ok (.aload_n 0, 1) := by decide +kernel
theorem dX12_rows_182 : decode cX12_rows 182 = .ok (.getfield 135, 3) := by decide +kernel
theorem dX12_rows_185 : decode cX12_rows 185 = .ok (.iastore, 1) := by decide +kernel
theorem dX12_rows_186 : decode cX12_rows 186 = .ok (.aload_n 0, 1) := by decide +kernel
theorem dX12_rows_187 : decode cX12_rows 187 = .ok (.dup, 1) := by decide +kernel
theorem dX12_rows_188 : decode cX12_rows 188 = .ok (.getfield 180, 3) := by decide +kernel
theorem dX12_rows_191 : decode cX12_rows 191 = .ok (.iconst 1, 1) := by decide +kernel
theorem dX12_rows_192 : decode cX12_rows 192 = .ok (.iadd, 1) := by decide +kernel
theorem dX12_rows_193 : decode cX12_rows 193 = .ok (.putfield 180, 3) := by decide +kernel
theorem dX12_rows_196 : decode cX12_rows 196 = .ok (.iinc 4 1, 3) := by decide +kernel
theorem dX12_rows_199 : decode cX12_rows 199 = .ok (.goto (-142), 3) := by decide +kernel
theorem dX12_rows_202 : decode cX12_rows 202 = .ok (.iinc 2 1, 3) := by decide +kernel
theorem dX12_rows_205 : decode cX12_rows 205 = .ok (.goto (-176), 3) := by decide +kernel
theorem dX12_rows_208 : decode cX12_rows 208 = .ok (.aload_n 0, 1) := by decide +kernel
theorem dX12_rows_209 : decode cX12_rows 209 = .ok (.getfield 180, 3) := by decide +kernel
theorem dX12_rows_212 : decode cX12_rows 212 = .ok (.ireturn, 1) := by decide +kernel
theorem dX12_row_0 : decode cX12_row 0 = .ok (.aload_n 0, 1) := by decide +kernel
theorem dX12_row_1 : decode cX12_row 1 = .ok (.iconst 0, 1) := by decide +kernel
theorem dX12_row_2 : decode cX12_row 2 = .ok (.putfield 85, 3) := by decide +kernel
theorem dX12_row_5 : decode cX12_row 5 = .ok (.iload_n 1, 1) := by decide +kernel
theorem dX12_row_6 : decode cX12_row 6 = .ok (.ifCond .lt 35, 3) := by decide +kernel
theorem dX12_row_9 : decode cX12_row 9 = .ok (.iload_n 1, 1) := by decide +kernel
theorem dX12_row_10 : decode cX12_row 10 = .ok (.aload_n 0, 1) := by decide +kernel
theorem dX12_row_11 : decode cX12_row 11 = .ok (.getfield 180, 3) := by decide +kernel
theorem dX12_row_14 : decode cX12_row 14 = .ok (.if_icmp .ge 27, 3) := by decide +kernel
theorem dX12_row_17 : decode cX12_row 17 = .ok (.iload_n 2, 1) := by decide +kernel
theorem dX12_row_18 : decode cX12_row 18 = .ok (.ifCond .lt 23, 3) := by decide +kernel
theorem dX12_row_21 : decode cX12_row 21 = .ok (.iload_n 2, 1) := by decide +kernel
theorem dX12_row_22 : decode cX12_row 22 = .ok (.bipush 6, 2) := by decide +kernel
theorem dX12_row_24 : decode cX12_row 24 = .ok (.if_icmp .ge 17, 3) := by decide +kernel
theorem dX12_row_27 : decode cX12_row 27 = .ok (.aload_n 0, 1) := by decide +kernel
theorem dX12_row_28 : decode cX12_row 28 = .ok (.getfield 36, 3) := by decide +kernel
theorem dX12_row_31 : decode cX12_row 31 = .ok (.bipush 6, 2) := by decide +kernel
theorem dX12_row_33 : decode cX12_row 33 = .ok (.iload_n 1, 1) := by decide +kernel
theorem dX12_row_34 : decode cX12_row 34 = .ok (.imul, 1) := by decide +kernel
theorem dX12_row_35 : decode cX12_row 35 = .ok (.iload_n 2, 1) := by decide +kernel
theorem dX12_row_36 : decode cX12_row 36 = .ok (.iadd, 1) := by decide +kernel
theorem dX12_row_37 : decode cX12_row 37 = .ok (.iaload, 1) := by decide +kernel
theorem dX12_row_38 : decode cX12_row 38 = .ok (.goto 4, 3) := by decide +kernel
theorem dX12_row_41 : decode cX12_row 41 = .ok (.iconst (-1), 1) := by decide +kernel
theorem dX12_row_42 : decode cX12_row 42 = .ok (.ireturn, 1) := by decide +kernel
theorem dX12_sortOf_0 : decode cX12_sortOf 0 = .ok (.iload_n 0, 1) := by decide +kernel
theorem dX12_sortOf_1 : decode cX12_sortOf 1 = .ok (.bipush 97, 2) := by decide +kernel
theorem dX12_sortOf_3 : decode cX12_sortOf 3 = .ok (.if_icmp .lt 11, 3) := by decide +kernel
theorem dX12_sortOf_6 : decode cX12_sortOf 6 = .ok (.iload_n 0, 1) := by decide +kernel
theorem dX12_sortOf_7 : decode cX12_sortOf 7 = .ok (.bipush 122, 2) := by decide +kernel
theorem dX12_sortOf_9 : decode cX12_sortOf 9 = .ok (.if_icmp .gt 5, 3) := by decide +kernel
theorem dX12_sortOf_12 : decode cX12_sortOf 12 = .ok (.iconst 1, 1) := by decide +kernel
theorem dX12_sortOf_13 : decode cX12_sortOf 13 = .ok (.ireturn, 1) := by decide +kernel
theorem dX12_sortOf_14 : decode cX12_sortOf 14 = .ok (.iload_n 0, 1) := by decide +kernel
theorem dX12_sortOf_15 : decode cX12_sortOf 15 = .ok (.bipush 65, 2) := by decide +kernel
theorem dX12_sortOf_17 : decode cX12_sortOf 17 = .ok (.if_icmp .lt 11, 3) := by decide +kernel
theorem dX12_sortOf_20 : decode cX12_sortOf 20 = .ok (.iload_n 0, 1) := by decide +kernel
theorem dX12_sortOf_21 : decode cX12_sortOf 21 = .ok (.bipush 90, 2) := by decide +kernel
theorem dX12_sortOf_23 : decode cX12_sortOf 23 = .ok (.if_icmp .gt 5, 3) := by decide +kernel
theorem dX12_sortOf_26 : decode cX12_sortOf 26 = .ok (.iconst 2, 1) := by decide +kernel
theorem dX12_sortOf_27 : decode cX12_sortOf 27 = .ok (.ireturn, 1) := by decide +kernel
theorem dX12_sortOf_28 : decode cX12_sortOf 28 = .ok (.iload_n 0, 1) := by decide +kernel
theorem dX12_sortOf_29 : decode cX12_sortOf 29 = .ok (.bipush 48, 2) := by decide +kernel
theorem dX12_sortOf_31 : decode cX12_sortOf 31 = .ok (.if_icmp .lt 11, 3) := by decide +kernel
theorem dX12_sortOf_34 : decode cX12_sortOf 34 = .ok (.iload_n 0, 1) := by decide +kernel
theorem dX12_sortOf_35 : decode cX12_sortOf 35 = .ok (.bipush 57, 2) := by decide +kernel
theorem dX12_sortOf_37 : decode cX12_sortOf 37 = .ok (.if_icmp .gt 5, 3) := by decide +kernel
theorem dX12_sortOf_40 : decode cX12_sortOf 40 = .ok (.iconst 3, 1) := by decide +kernel
theorem dX12_sortOf_41 : decode cX12_sortOf 41 = .ok (.ireturn, 1) := by decide +kernel
theorem dX12_sortOf_42 : decode cX12_sortOf 42 = .ok (.iload_n 0, 1) := by decide +kernel
theorem dX12_sortOf_43 : decode cX12_sortOf 43 = .ok (.bipush 32, 2) := by decide +kernel
theorem dX12_sortOf_45 : decode cX12_sortOf 45 = .ok (.if_icmp .ne 5, 3) := by decide +kernel
theorem dX12_sortOf_48 : decode cX12_sortOf 48 = .ok (.iconst 4, 1) := by decide +kernel
theorem dX12_sortOf_49 : decode cX12_sortOf 49 = .ok (.ireturn, 1) := by decide +kernel
theorem dX12_sortOf_50 : decode cX12_sortOf 50 = .ok (.iload_n 0, 1) := by decide +kernel
theorem dX12_sortOf_51 : decode cX12_sortOf 51 = .ok (.bipush 33, 2) := by decide +kernel
theorem dX12_sortOf_53 : decode cX12_sortOf 53 = .ok (.if_icmp .lt 11, 3) := by decide +kernel
theorem dX12_sortOf_56 : decode cX12_sortOf 56 = .ok (.iload_n 0, 1) := by decide +kernel
theorem dX12_sortOf_57 : decode cX12_sortOf 57 = .ok (.bipush 126, 2) := by decide +kernel
theorem dX12_sortOf_59 : decode cX12_sortOf 59 = .ok (.if_icmp .gt 5, 3) := by decide +kernel
theorem dX12_sortOf_62 : decode cX12_sortOf 62 = .ok (.iconst 5, 1) := by decide +kernel
theorem dX12_sortOf_63 : decode cX12_sortOf 63 = .ok (.ireturn, 1) := by decide +kernel
theorem dX12_sortOf_64 : decode cX12_sortOf 64 = .ok (.iload_n 0, 1) := by decide +kernel
theorem dX12_sortOf_65 : decode cX12_sortOf 65 = .ok (.sipush 192, 3) := by decide +kernel
theorem dX12_sortOf_68 : decode cX12_sortOf 68 = .ok (.if_icmp .lt 27, 3) := by decide +kernel
theorem dX12_sortOf_71 : decode cX12_sortOf 71 = .ok (.iload_n 0, 1) := by decide +kernel
theorem dX12_sortOf_72 : decode cX12_sortOf 72 = .ok (.sipush 591, 3) := by decide +kernel
theorem dX12_sortOf_75 : decode cX12_sortOf 75 = .ok (.if_icmp .gt 20, 3) := by decide +kernel
theorem dX12_sortOf_78 : decode cX12_sortOf 78 = .ok (.iload_n 0, 1) := by decide +kernel
theorem dX12_sortOf_79 : decode cX12_sortOf 79 = .ok (.sipush 215, 3) := by decide +kernel
theorem dX12_sortOf_82 : decode cX12_sortOf 82 = .ok (.if_icmp .eq 13, 3) := by decide +kernel
theorem dX12_sortOf_85 : decode cX12_sortOf 85 = .ok (.iload_n 0, 1) := by decide +kernel
theorem dX12_sortOf_86 : decode cX12_sortOf 86 = .ok (.sipush 247, 3) := by decide +kernel
theorem dX12_sortOf_89 : decode cX12_sortOf 89 = .ok (.if_icmp .eq 6, 3) := by decide +kernel
theorem dX12_sortOf_92 : decode cX12_sortOf 92 = .ok (.bipush 6, 2) := by decide +kernel
theorem dX12_sortOf_94 : decode cX12_sortOf 94 = .ok (.ireturn, 1) := by decide +kernel
theorem dX12_sortOf_95 : decode cX12_sortOf 95 = .ok (.iload_n 0, 1) := by decide +kernel
theorem dX12_sortOf_96 : decode cX12_sortOf 96 = .ok (.sipush 880, 3) := by decide +kernel
theorem dX12_sortOf_99 : decode cX12_sortOf 99 = .ok (.if_icmp .lt 15, 3) := by decide +kernel
theorem dX12_sortOf_102 : decode cX12_sortOf 102 = .ok (.iload_n 0, 1) := by decide +kernel
theorem dX12_sortOf_103 : decode cX12_sortOf 103 = .ok (.sipush 1327, 3) := by decide +kernel
theorem dX12_sortOf_106 : decode cX12_sortOf 106 = .ok (.if_icmp .gt 8, 3) := by decide +kernel
theorem dX12_sortOf_109 : decode cX12_sortOf 109 = .ok (.bipush 7, 2) := by decide +kernel
theorem dX12_sortOf_111 : decode cX12_sortOf 111 = .ok (.goto 4, 3) := by decide +kernel
theorem dX12_sortOf_114 : decode cX12_sortOf 114 = .ok (.iconst 0, 1) := by decide +kernel
theorem dX12_sortOf_115 : decode cX12_sortOf 115 = .ok (.ireturn, 1) := by decide +kernel
set_option maxRecDepth 20000 in
theorem ggX12_costOf_X12_sortOf : GoodIn wsX12_costOf wsX12_sortOf := goodIn_r _ [8] (by decide +kernel) (by decide +kernel)
set_option maxRecDepth 20000 in
theorem gX12_costOf_X12_sortOf : GoodIn wsX12_costOf (va_wsS RX12 193 yX12_sortOf wsX12_sortOf) := goodIn_app (goodIn_of _ (by decide +kernel)) ggX12_costOf_X12_sortOf
theorem dX12_costOf_0 : decode cX12_costOf 0 = .ok (.iconst 0, 1) := by decide +kernel
theorem dX12_costOf_1 : decode cX12_costOf 1 = .ok (.istore_n 3, 1) := by decide +kernel
theorem dX12_costOf_2 : decode cX12_costOf 2 = .ok (.iload_n 3, 1) := by decide +kernel
theorem dX12_costOf_3 : decode cX12_costOf 3 = .ok (.aload_n 0, 1) := by decide +kernel
theorem dX12_costOf_4 : decode cX12_costOf 4 = .ok (.getfield 168, 3) := by decide +kernel
theorem dX12_costOf_7 : decode cX12_costOf 7 = .ok (.if_icmp .ge 36, 3) := by decide +kernel
theorem dX12_costOf_10 : decode cX12_costOf 10 = .ok (.aload_n 0, 1) := by decide +kernel
theorem dX12_costOf_11 : decode cX12_costOf 11 = .ok (.getfield 39, 3) := by decide +kernel
theorem dX12_costOf_14 : decode cX12_costOf 14 = .ok (.iload_n 3, 1) := by decide +kernel
theorem dX12_costOf_15 : decode cX12_costOf 15 = .ok (.iaload, 1) := by decide +kernel
theorem dX12_costOf_16 : decode cX12_costOf 16 = .ok (.iload_n 1, 1) := by decide +kernel
theorem dX12_costOf_17 : decode cX12_costOf 17 = .ok (.if_icmp .ne 20, 3) := by decide +kernel
theorem dX12_costOf_20 : decode cX12_costOf 20 = .ok (.aload_n 0, 1) := by decide +kernel
theorem dX12_costOf_21 : decode cX12_costOf 21 = .ok (.getfield 42, 3) := by decide +kernel
theorem dX12_costOf_24 : decode cX12_costOf 24 = .ok (.iload_n 3, 1) := by decide +kernel
theorem dX12_costOf_25 : decode cX12_costOf 25 = .ok (.iaload, 1) := by decide +kernel
theorem dX12_costOf_26 : decode cX12_costOf 26 = .ok (.iload_n 2, 1) := by decide +kernel
theorem dX12_costOf_27 : decode cX12_costOf 27 = .ok (.if_icmp .ne 10, 3) := by decide +kernel
theorem dX12_costOf_30 : decode cX12_costOf 30 = .ok (.aload_n 0, 1) := by decide +kernel
theorem dX12_costOf_31 : decode cX12_costOf 31 = .ok (.getfield 45, 3) := by decide +kernel
theorem dX12_costOf_34 : decode cX12_costOf 34 = .ok (.iload_n 3, 1) := by decide +kernel
theorem dX12_costOf_35 : decode cX12_costOf 35 = .ok (.iaload, 1) := by decide +kernel
theorem dX12_costOf_36 : decode cX12_costOf 36 = .ok (.ireturn, 1) := by decide +kernel
theorem dX12_costOf_37 : decode cX12_costOf 37 = .ok (.iinc 3 1, 3) := by decide +kernel
theorem dX12_costOf_40 : decode cX12_costOf 40 = .ok (.goto (-38), 3) := by decide +kernel
theorem dX12_costOf_43 : decode cX12_costOf 43 = .ok (.iload_n 1, 1) := by decide +kernel
theorem dX12_costOf_44 : decode cX12_costOf 44 = .ok (.invokestatic 193, 3) := by decide +kernel
theorem dX12_costOf_47 : decode cX12_costOf 47 = .ok (.istore_n 3, 1) := by decide +kernel
theorem dX12_costOf_48 : decode cX12_costOf 48 = .ok (.iload_n 2, 1) := by decide +kernel
theorem dX12_costOf_49 : decode cX12_costOf 49 = .ok (.invokestatic 193, 3) := by decide +kernel
theorem dX12_costOf_52 : decode cX12_costOf 52 = .ok (.istore 4, 2) := by decide +kernel
theorem dX12_costOf_54 : decode cX12_costOf 54 = .ok (.iload_n 3, 1) := by decide +kernel
theorem dX12_costOf_55 : decode cX12_costOf 55 = .ok (.iload 4, 2) := by decide +kernel
theorem dX12_costOf_57 : decode cX12_costOf 57 = .ok (.if_icmp .ne 7, 3) := by decide +kernel
theorem dX12_costOf_60 : decode cX12_costOf 60 = .ok (.iconst 4, 1) := by decide +kernel
theorem dX12_costOf_61 : decode cX12_costOf 61 = .ok (.goto 5, 3) := by decide +kernel
theorem dX12_costOf_64 : decode cX12_costOf 64 = .ok (.bipush 9, 2) := by decide +kernel
theorem dX12_costOf_66 : decode cX12_costOf 66 = .ok (.iload_n 3, 1) := by decide +kernel
theorem dX12_costOf_67 : decode cX12_costOf 67 = .ok (.ifCond .ne 8, 3) := by decide +kernel
theorem dX12_costOf_70 : decode cX12_costOf 70 = .ok (.bipush 30, 2) := by decide +kernel
theorem dX12_costOf_72 : decode cX12_costOf 72 = .ok (.goto 4, 3) := by decide +kernel
theorem dX12_costOf_75 : decode cX12_costOf 75 = .ok (.iconst 0, 1) := by decide +kernel
theorem dX12_costOf_76 : decode cX12_costOf 76 = .ok (.iadd, 1) := by decide +kernel
theorem dX12_costOf_77 : decode cX12_costOf 77 = .ok (.iload 4, 2) := by decide +kernel
theorem dX12_costOf_79 : decode cX12_costOf 79 = .ok (.ifCond .ne 8, 3) := by decide +kernel
theorem dX12_costOf_82 : decode cX12_costOf 82 = .ok (.bipush 30, 2) := by decide +kernel
theorem dX12_costOf_84 : decode cX12_costOf 84 = .ok (.goto 4, 3) := by decide +kernel
theorem dX12_costOf_87 : decode cX12_costOf 87 = .ok (.iconst 0, 1) := by decide +kernel
theorem dX12_costOf_88 : decode cX12_costOf 88 = .ok (.iadd, 1) := by decide +kernel
theorem dX12_costOf_89 : decode cX12_costOf 89 = .ok (.ireturn, 1) := by decide +kernel
set_option maxRecDepth 20000 in
theorem ggX12_costOf__X12_costOf : GoodIn wsX12_costOf_ wsX12_costOf := goodIn_r _ [5, 6, 7, 8, 9, 10, 11, 4, 12, 13, 14, 15, 16, 17, 18, 19, 20, 21, 22, 23, 24, 25, 26, 27, 28, 29, 30, 31, 32, 33, 34, 35, 36, 37, 38, 39, 40, 41, 42, 43, 44, 45, 46, 47, 48, 49, 50, 51, 52] (by decide +kernel) (by decide +kernel)
set_option maxRecDepth 20000 in
theorem gX12_costOf__X12_costOf : GoodIn wsX12_costOf_ (wsV RX12 196 RX12 yX12_costOf wsX12_costOf) := goodIn_app (goodIn_of _ (by decide +kernel)) ggX12_costOf__X12_costOf
theorem dX12_costOf__0 : decode cX12_costOf_ 0 = .ok (.iconst 0, 1) := by decide +kernel
theorem dX12_costOf__1 : decode cX12_costOf_ 1 = .ok (.istore 4, 2) := by decide +kernel
theorem dX12_costOf__3 : decode cX12_costOf_ 3 = .ok (.bipush 32, 2) := by decide +kernel
theorem dX12_costOf__5 : decode cX12_costOf_ 5 = .ok (.istore 5, 2) := by decide +kernel
theorem dX12_costOf__7 : decode cX12_costOf_ 7 = .ok (.iload_n 2, 1) := by decide +kernel
theorem dX12_costOf__8 : decode cX12_costOf_ 8 = .ok (.istore 6, 2) := by decide +kernel
theorem dX12_costOf__10 : decode cX12_costOf_ 10 = .ok (.iload 6, 2) := by decide +kernel
theorem dX12_costOf__12 : decode cX12_costOf_ 12 = .ok (.iload_n 3, 1) := by decide +kernel
theorem dX12_costOf__13 : decode cX12_costOf_ 13 = .ok (.if_icmp .ge 30, 3) := by decide +kernel
theorem dX12_costOf__16 : decode cX12_costOf_ 16 = .ok (.iload 4, 2) := by decide +kernel
theorem dX12_costOf__18 : decode cX12_costOf_ 18 = .ok (.aload_n 0, 1) := by decide +kernel
theorem dX12_costOf__19 : decode cX12_costOf_ 19 = .ok (.iload 5, 2) := by decide +kernel
theorem dX12_costOf__21 : decode cX12_costOf_ 21 = .ok (.aload_n 1, 1) := by decide +kernel
theorem dX12_costOf__22 : decode cX12_costOf_ 22 = .ok (.iload 6, 2) := by decide +kernel
theorem dX12_costOf__24 : decode cX12_costOf_ 24 = .ok (.iaload, 1) := by decide +kernel
theorem dX12_costOf__25 : decode cX12_costOf_ 25 = .ok (.invokevirtual 196, 3) := by decide +kernel
theorem dX12_costOf__28 : decode cX12_costOf_ 28 = .ok (.iadd, 1) := by decide +kernel
theorem dX12_costOf__29 : decode cX12_costOf_ 29 = .ok (.istore 4, 2) := by decide +kernel
theorem dX12_costOf__31 : decode cX12_costOf_ 31 = .ok (.aload_n 1, 1) := by decide +kernel
theorem dX12_costOf__32 : decode cX12_costOf_ 32 = .ok (.iload 6, 2) := by decide +kernel
theorem dX12_costOf__34 : decode cX12_costOf_ 34 = .ok (.iaload, 1) := by decide +kernel
theorem dX12_costOf__35 : decode cX12_costOf_ 35 = .ok (.istore 5, 2) := by decide +kernel
theorem dX12_costOf__37 : decode cX12_costOf_ 37 = .ok (.iinc 6 1, 3) := by decide +kernel
theorem dX12_costOf__40 : decode cX12_costOf_ 40 = .ok (.goto (-30), 3) := by decide +kernel
theorem dX12_costOf__43 : decode cX12_costOf_ 43 = .ok (.iload 4, 2) := by decide +kernel
theorem dX12_costOf__45 : decode cX12_costOf_ 45 = .ok (.aload_n 0, 1) := by decide +kernel
theorem dX12_costOf__46 : decode cX12_costOf_ 46 = .ok (.iload 5, 2) := by decide +kernel
theorem dX12_costOf__48 : decode cX12_costOf_ 48 = .ok (.bipush 32, 2) := by decide +kernel
theorem dX12_costOf__50 : decode cX12_costOf_ 50 = .ok (.invokevirtual 196, 3) := by decide +kernel
theorem dX12_costOf__53 : decode cX12_costOf_ 53 = .ok (.iadd, 1) := by decide +kernel
theorem dX12_costOf__54 : decode cX12_costOf_ 54 = .ok (.ireturn, 1) := by decide +kernel
set_option maxRecDepth 20000 in
theorem ggX12_cost_X12_isLetter : GoodIn wsX12_cost wsX12_isLetter := goodIn_r _ [10, 11, 12, 13] (by decide +kernel) (by decide +kernel)
set_option maxRecDepth 20000 in
theorem gX12_cost_X12_isLetter : GoodIn wsX12_cost (va_wsS RX12 116 yX12_isLetter wsX12_isLetter) := goodIn_app (goodIn_of _ (by decide +kernel)) ggX12_cost_X12_isLetter
theorem dX12_cost_0 : decode cX12_cost 0 = .ok (.aload_n 0, 1) := by decide +kernel
theorem dX12_cost_1 : decode cX12_cost 1 = .ok (.iconst 0, 1) := by decide +kernel
theorem dX12_cost_2 : decode cX12_cost 2 = .ok (.putfield 85, 3) := by decide +kernel
theorem dX12_cost_5 : decode cX12_cost 5 = .ok (.iload_n 1, 1) := by decide +kernel
theorem dX12_cost_6 : decode cX12_cost 6 = .ok (.invokestatic 116, 3) := by decide +kernel
theorem dX12_cost_9 : decode cX12_cost 9 = .ok (.ifCond .eq 21, 3) := by decide +kernel
theorem dX12_cost_12 : decode cX12_cost 12 = .ok (.iload_n 2, 1) := by decide +kernel
theorem dX12_cost_13 : decode cX12_cost 13 = .ok (.invokestatic 116, 3) := by decide +kernel
theorem dX12_cost_16 : decode cX12_cost 16 = .ok (.ifCond .eq 14, 3) := by decide +kernel
theorem dX12_cost_19 : decode cX12_cost 19 = .ok (.iload_n 3, 1) := by decide +kernel
theorem dX12_cost_20 : decode cX12_cost 20 = .ok (.ifCond .lt 10, 3) := by decide +kernel
theorem dX12_cost_23 : decode cX12_cost 23 = .ok (.iload_n 3, 1) := by decide +kernel
theorem dX12_cost_24 : decode cX12_cost 24 = .ok (.sipush 200, 3) := by decide +kernel
theorem dX12_cost_27 : decode cX12_cost 27 = .ok (.if_icmp .le 5, 3) := by decide +kernel
theorem dX12_cost_30 : decode cX12_cost 30 = .ok (.iconst 0, 1) := by decide +kernel
theorem dX12_cost_31 : decode cX12_cost 31 = .ok (.ireturn, 1) := by decide +kernel
theorem dX12_cost_32 : decode cX12_cost 32 = .ok (.iconst 0, 1) := by decide +kernel
theorem dX12_cost_33 : decode cX12_cost 33 = .ok (.istore 4, 2) := by decide +kernel
theorem dX12_cost_35 : decode cX12_cost 35 = .ok (.iload 4, 2) := by decide +kernel
theorem dX12_cost_37 : decode cX12_cost 37 = .ok (.aload_n 0, 1) := by decide +kernel
theorem dX12_cost_38 : decode cX12_cost 38 = .ok (.getfield 168, 3) := by decide +kernel
theorem dX12_cost_41 : decode cX12_cost 41 = .ok (.if_icmp .ge 31, 3) := by decide +kernel
theorem dX12_cost_44 : decode cX12_cost 44 = .ok (.aload_n 0, 1) := by decide +kernel
theorem dX12_cost_45 : decode cX12_cost 45 = .ok (.getfield 39, 3) := by decide +kernel
theorem dX12_cost_48 : decode cX12_cost 48 = .ok (.iload 4, 2) := by decide +kernel
theorem dX12_cost_50 : decode cX12_cost 50 = .ok (.iaload, 1) := by decide +kernel
theorem dX12_cost_51 : decode cX12_cost 51 = .ok (.iload_n 1, 1) := by decide +kernel
theorem dX12_cost_52 : decode cX12_cost 52 = .ok (.if_icmp .ne 14, 3) := by decide +kernel
theorem dX12_cost_55 : decode cX12_cost 55 = .ok (.aload_n 0, 1) := by decide +kernel
theorem dX12_cost_56 : decode cX12_cost 56 = .ok (.getfield 42, 3) := by decide +kernel
theorem dX12_cost_59 : decode cX12_cost 59 = .ok (.iload 4, 2) := by decide +kernel
theorem dX12_cost_61 : decode cX12_cost 61 = .ok (.iaload, 1) := by decide +kernel
theorem dX12_cost_62 : decode cX12_cost 62 = .ok (.iload_n 2, 1) := by decide +kernel
theorem dX12_cost_63 : decode cX12_cost 63 = .ok (.if_icmp .eq 9, 3) := by decide +kernel
theorem dX12_cost_66 : decode cX12_cost 66 = .ok (.iinc 4 1, 3) := by decide +kernel
theorem dX12_cost_69 : decode cX12_cost 69 = .ok (.goto (-34), 3) := by decide +kernel
theorem dX12_cost_72 : decode cX12_cost 72 = .ok (.iload 4, 2) := by decide +kernel
theorem dX12_cost_74 : decode cX12_cost 74 = .ok (.sipush 300, 3) := by decide +kernel
theorem dX12_cost_77 : decode cX12_cost 77 = .ok (.if_icmp .ne 5, 3) := by decide +kernel
theorem dX12_cost_80 : decode cX12_cost 80 = .ok (.iconst 0, 1) := by decide +kernel
theorem dX12_cost_81 : decode cX12_cost 81 = .ok (.ireturn, 1) := by decide +kernel
theorem dX12_cost_82 : decode cX12_cost 82 = .ok (.aload_n 0, 1) := by decide +kernel
theorem dX12_cost_83 : decode cX12_cost 83 = .ok (.getfield 39, 3) := by decide +kernel
theorem dX12_cost_86 : decode cX12_cost 86 = .ok (.iload 4, 2) := by decide +kernel
theorem dX12_cost_88 : decode cX12_cost 88 = .ok (.iload_n 1, 1) := by decide +kernel
theorem dX12_cost_89 : decode cX12_cost 89 = .ok (.iastore, 1) := by decide +kernel
theorem dX12_cost_90 : decode cX12_cost 90 = .ok (.aload_n 0, 1) := by decide +kernel
theorem dX12_cost_91 : decode cX12_cost 91 = .ok (.getfield 42, 3) := by decide +kernel
theorem dX12_cost_94 : decode cX12_cost 94 = .ok (.iload 4, 2) := by decide +kernel
theorem dX12_cost_96 : decode cX12_cost 96 = .ok (.iload_n 2, 1) := by decide +kernel
theorem dX12_cost_97 : decode cX12_cost 97 = .ok (.iastore, 1) := by decide +kernel
theorem dX12_cost_98 : decode cX12_cost 98 = .ok (.aload_n 0, 1) := by decide +kernel
theorem dX12_cost_99 : decode cX12_cost 99 = .ok (.getfield 45, 3) := by decide +kernel
theorem dX12_cost_102 : decode cX12_cost 102 = .ok (.iload 4, 2) := by decide +kernel
theorem dX12_cost_104 : decode cX12_cost 104 = .ok (.iload_n 3, 1) := by decide +kernel
theorem dX12_cost_105 : decode cX12_cost 105 = .ok (.iastore, 1) := by decide +kernel
theorem dX12_cost_106 : decode cX12_cost 106 = .ok (.iload 4, 2) := by decide +kernel
theorem dX12_cost_108 : decode cX12_cost 108 = .ok (.aload_n 0, 1) := by decide +kernel
theorem dX12_cost_109 : decode cX12_cost 109 = .ok (.getfield 168, 3) := by decide +kernel
theorem dX12_cost_112 : decode cX12_cost 112 = .ok (.if_icmp .ne 13, 3) := by decide +kernel
theorem dX12_cost_115 : decode cX12_cost 115 = .ok (.aload_n 0, 1) := by decide +kernel
theorem dX12_cost_116 : decode cX12_cost 116 = .ok (.dup, 1) := by decide +kernel
theorem dX12_cost_117 : decode cX12_cost 117 = .ok (.getfield 168, 3) := by decide +kernel
theorem dX12_cost_120 : decode cX12_cost 120 = .ok (.iconst 1, 1) := by decide +kernel
theorem dX12_cost_121 : decode cX12_cost 121 = .ok (.iadd, 1) := by decide +kernel
theorem dX12_cost_122 : decode cX12_cost 122 = .ok (.putfield 168, 3) := by decide +kernel
theorem dX12_cost_125 : decode cX12_cost 125 = .ok (.aload_n 0, 1) := by decide +kernel
theorem dX12_cost_126 : decode cX12_cost 126 = .ok (.dup, 1) := by decide +kernel
theorem dX12_cost_127 : decode cX12_cost 127 = .ok (.getfield 148, 3) := by decide +kernel
theorem dX12_cost_130 : decode cX12_cost 130 = .ok (.iconst 1, 1) := by decide +kernel
theorem dX12_cost_131 : decode cX12_cost 131 = .ok (.iadd, 1) := by decide +kernel
theorem dX12_cost_132 : decode cX12_cost 132 = .ok (.putfield 148, 3) := by decide +kernel
theorem dX12_cost_135 : decode cX12_cost 135 = .ok (.iconst 1, 1) := by decide +kernel
theorem dX12_cost_136 : decode cX12_cost 136 = .ok (.ireturn, 1) := by decide +kernel
set_option maxRecDepth 20000 in
theorem ggX12_worth_X12_costOf_ : GoodIn wsX12_worth wsX12_costOf_ := goodIn_r _ [8, 9, 10, 11, 7, 12, 13, 14, 15, 16, 17, 18, 19, 20, 21, 22, 23, 24, 25, 26, 27, 28, 29, 30, 31, 32, 33, 34, 35, 36, 37, 38, 39, 40, 41, 42, 43, 44, 45, 46, 47, 48, 49, 50, 51, 52, 53, 54, 55, 56, 57, 58, 59] (by decide +kernel) (by decide +kernel)
set_option maxRecDepth 20000 in
theorem gX12_worth_X12_costOf_ : GoodIn wsX12_worth (wsV RX12 189 RX12 yX12_costOf_ wsX12_costOf_) := goodIn_app (goodIn_of _ (by decide +kernel)) ggX12_worth_X12_costOf_
theorem dX12_worth_0 : decode cX12_worth 0 = .ok (.aload_n 0, 1) := by decide +kernel
theorem dX12_worth_1 : decode cX12_worth 1 = .ok (.iconst 0, 1) := by decide +kernel
theorem dX12_worth_2 : decode cX12_worth 2 = .ok (.putfield 85, 3) := by decide +kernel
theorem dX12_worth_5 : decode cX12_worth 5 = .ok (.aload_n 0, 1) := by decide +kernel
theorem dX12_worth_6 : decode cX12_worth 6 = .ok (.aload_n 0, 1) := by decide +kernel
theorem dX12_worth_7 : decode cX12_worth 7 = .ok (.getfield 16, 3) := by decide +kernel
theorem dX12_worth_10 : decode cX12_worth 10 = .ok (.iconst 0, 1) := by decide +kernel
theorem dX12_worth_11 : decode cX12_worth 11 = .ok (.aload_n 0, 1) := by decide +kernel
theorem dX12_worth_12 : decode cX12_worth 12 = .ok (.getfield 13, 3) := by decide +kernel
theorem dX12_worth_15 : decode cX12_worth 15 = .ok (.iconst 0, 1) := by decide +kernel
theorem dX12_worth_16 : decode cX12_worth 16 = .ok (.iaload, 1) := by decide +kernel
theorem dX12_worth_17 : decode cX12_worth 17 = .ok (.invokevirtual 189, 3) := by decide +kernel
theorem dX12_worth_20 : decode cX12_worth 20 = .ok (.ireturn, 1) := by decide +kernel
set_option maxRecDepth 20000 in
theorem ggX12_mend_X12_power : GoodIn wsX12_mend wsX12_power := goodIn_r _ [12] (by decide +kernel) (by decide +kernel)
set_option maxRecDepth 20000 in
theorem gX12_mend_X12_power : GoodIn wsX12_mend (va_wsS RX12 183 yX12_power wsX12_power) := goodIn_app (goodIn_of _ (by decide +kernel)) ggX12_mend_X12_power
set_option maxRecDepth 20000 in
theorem ggX12_mend_X12_makes : GoodIn wsX12_mend wsX12_makes := goodIn_r _ [16, 4, 17, 18, 19, 20, 21, 11, 22, 8, 6, 5, 7, 23, 24, 25, 26, 27, 28, 29, 30, 31, 32, 33, 34, 35, 36, 37, 38, 39, 40, 41, 42, 43, 44, 45, 46, 47, 48, 49, 50, 51, 52, 53, 54, 55, 56, 57, 58, 59, 60, 61, 62, 63, 64, 65, 66, 67, 68, 69, 70, 71, 72, 73, 96, 97, 98, 99, 100, 101, 102, 103, 104, 105, 106, 107, 108, 109, 110, 111, 112, 113, 114, 115, 116, 117, 118, 119, 120, 121, 122, 123, 124, 125, 126, 127, 128, 129, 130, 131, 132, 133, 134, 135] (by decide +kernel) (by decide +kernel)
set_option maxRecDepth 20000 in
theorem gX12_mend_X12_makes : GoodIn wsX12_mend (wsV RX12 186 RX12 yX12_makes wsX12_makes) := goodIn_app (goodIn_of _ (by decide +kernel)) ggX12_mend_X12_makes
set_option maxRecDepth 20000 in
theorem ggX12_mend_X12_costOf_ : GoodIn wsX12_mend wsX12_costOf_ := goodIn_r _ [77, 78, 79, 80, 11, 81, 82, 83, 84, 85, 86, 87, 88, 96, 97, 98, 99, 100, 101, 102, 103, 104, 105, 106, 107, 108, 109, 110, 111, 112, 113, 114, 115, 116, 117, 118, 119, 120, 121, 122, 123, 124, 125, 126, 127, 128, 129, 130, 131, 132, 133, 134, 135] (by decide +kernel) (by decide +kernel)
set_option maxRecDepth 20000 in
theorem gX12_mend_X12_costOf_ : GoodIn wsX12_mend (wsV RX12 189 RX12 yX12_costOf_ wsX12_costOf_) := goodIn_app (goodIn_of _ (by decide +kernel)) ggX12_mend_X12_costOf_
set_option maxRecDepth 20000 in
theorem ggX12_mend_X12_become : GoodIn wsX12_mend wsX12_become := goodIn_r _ [92, 93, 94, 8, 7, 95, 96, 97, 98, 99, 100, 101, 102, 103, 104, 105, 106, 107, 108, 109, 110, 111, 112, 113, 114, 115, 116, 117, 118, 119, 120, 121, 122, 123, 124, 125, 126, 127, 128, 129, 130, 131, 132, 133, 134, 135] (by decide +kernel) (by decide +kernel)
set_option maxRecDepth 20000 in
theorem gX12_mend_X12_become : GoodIn wsX12_mend (wsV RX12 154 RX12 yX12_become wsX12_become) := goodIn_app (goodIn_of _ (by decide +kernel)) ggX12_mend_X12_become
theorem dX12_mend_0 : decode cX12_mend 0 = .ok (.aload_n 0, 1) := by decide +kernel
theorem dX12_mend_1 : decode cX12_mend 1 = .ok (.iconst 0, 1) := by decide +kernel
theorem dX12_mend_2 : decode cX12_mend 2 = .ok (.putfield 85, 3) := by decide +kernel
theorem dX12_mend_5 : decode cX12_mend 5 = .ok (.aload_n 0, 1) := by decide +kernel
theorem dX12_mend_6 : decode cX12_mend 6 = .ok (.iconst (-1), 1) := by decide +kernel
theorem dX12_mend_7 : decode cX12_mend 7 = .ok (.putfield 55, 3) := by decide +kernel
theorem dX12_mend_10 : decode cX12_mend 10 = .ok (.iload_n 1, 1) := by decide +kernel
theorem dX12_mend_11 : decode cX12_mend 11 = .ok (.iconst 1, 1) := by decide +kernel
theorem dX12_mend_12 : decode cX12_mend 12 = .ok (.if_icmp .lt 19, 3) := by decide +kernel
theorem dX12_mend_15 : decode cX12_mend 15 = .ok (.iload_n 1, 1) := by decide +kernel
theorem dX12_mend_16 : decode cX12_mend 16 = .ok (.iconst 3, 1) := by decide +kernel
theorem dX12_mend_17 : decode cX12_mend 17 = .ok (.if_icmp .gt 14, 3) := by decide +kernel
theorem dX12_mend_20 : decode cX12_mend 20 = .ok (.iload_n 2, 1) := by decide +kernel
theorem dX12_mend_21 : decode cX12_mend 21 = .ok (.iconst 1, 1) := by decide +kernel
theorem dX12_mend_22 : decode cX12_mend 22 = .ok (.if_icmp .lt 9, 3) := by decide +kernel
theorem dX12_mend_25 : decode cX12_mend 25 = .ok (.iload_n 2, 1) := by decide +kernel
theorem dX12_mend_26 : decode cX12_mend 26 = .ok (.ldc 198, 2) := by decide +kernel
theorem dX12_mend_28 : decode cX12_mend 28 = .ok (.if_icmp .le 5, 3) := by decide +kernel
theorem dX12_mend_31 : decode cX12_mend 31 = .ok (.iconst (-1), 1) := by decide +kernel
theorem dX12_mend_32 : decode cX12_mend 32 = .ok (.ireturn, 1) := by decide +kernel
theorem dX12_mend_33 : decode cX12_mend 33 = .ok (.iconst (-1), 1) := by decide +kernel
theorem dX12_mend_34 : decode cX12_mend 34 = .ok (.istore_n 3, 1) := by decide +kernel
theorem dX12_mend_35 : decode cX12_mend 35 = .ok (.iconst 0, 1) := by decide +kernel
theorem dX12_mend_36 : decode cX12_mend 36 = .ok (.istore 4, 2) := by decide +kernel
theorem dX12_mend_38 : decode cX12_mend 38 = .ok (.iconst 0, 1) := by decide +kernel
theorem dX12_mend_39 : decode cX12_mend 39 = .ok (.istore 5, 2) := by decide +kernel
theorem dX12_mend_41 : decode cX12_mend 41 = .ok (.iconst 0, 1) := by decide +kernel
theorem dX12_mend_42 : decode cX12_mend 42 = .ok (.istore 6, 2) := by decide +kernel
theorem dX12_mend_44 : decode cX12_mend 44 = .ok (.iconst 0, 1) := by decide +kernel
theorem dX12_mend_45 : decode cX12_mend 45 = .ok (.istore 7, 2) := by decide +kernel
theorem dX12_mend_47 : decode cX12_mend 47 = .ok (.iconst 1, 1) := by decide +kernel
theorem dX12_mend_48 : decode cX12_mend 48 = .ok (.istore 8, 2) := by decide +kernel
theorem dX12_mend_50 : decode cX12_mend 50 = .ok (.iload 8, 2) := by decide +kernel
theorem dX12_mend_52 : decode cX12_mend 52 = .ok (.iload_n 1, 1) := by decide +kernel
theorem dX12_mend_53 : decode cX12_mend 53 = .ok (.if_icmp .gt 106, 3) := by decide +kernel
theorem dX12_mend_56 : decode cX12_mend 56 = .ok (.aload_n 0, 1) := by decide +kernel
theorem dX12_mend_57 : decode cX12_mend 57 = .ok (.getfield 161, 3) := by decide +kernel
theorem dX12_mend_60 : decode cX12_mend 60 = .ok (.ifCond .ne 7, 3) := by decide +kernel
theorem dX12_mend_63 : decode cX12_mend 63 = .ok (.iconst 0, 1) := by decide +kernel
theorem dX12_mend_64 : decode cX12_mend 64 = .ok (.goto 12, 3) := by decide +kernel
theorem dX12_mend_67 : decode cX12_mend 67 = .ok (.aload_n 0, 1) := by decide +kernel
theorem dX12_mend_68 : decode cX12_mend 68 = .ok (.getfield 161, 3) := by decide +kernel
theorem dX12_mend_71 : decode cX12_mend 71 = .ok (.iload 8, 2) := by decide +kernel
theorem dX12_mend_73 : decode cX12_mend 73 = .ok (.invokestatic 183, 3) := by decide +kernel
theorem dX12_mend_76 : decode cX12_mend 76 = .ok (.istore 9, 2) := by decide +kernel
theorem dX12_mend_78 : decode cX12_mend 78 = .ok (.iconst 0, 1) := by decide +kernel
theorem dX12_mend_79 : decode cX12_mend 79 = .ok (.istore 10, 2) := by decide +kernel
theorem dX12_mend_81 : decode cX12_mend 81 = .ok (.iload 10, 2) := by decide +kernel
theorem dX12_mend_83 : decode cX12_mend 83 = .ok (.iload 9, 2) := by decide +kernel
theorem dX12_mend_85 : decode cX12_mend 85 = .ok (.if_icmp .ge 68, 3) := by decide +kernel
theorem dX12_mend_88 : decode cX12_mend 88 = .ok (.aload_n 0, 1) := by decide +kernel
theorem dX12_mend_89 : decode cX12_mend 89 = .ok (.iload 10, 2) := by decide +kernel
theorem dX12_mend_91 : decode cX12_mend 91 = .ok (.iload 8, 2) := by decide +kernel
theorem dX12_mend_93 : decode cX12_mend 93 = .ok (.invokevirtual 186, 3) := by decide +kernel
theorem dX12_mend_96 : decode cX12_mend 96 = .ok (.ifCond .ne 6, 3) := by decide +kernel
theorem dX12_mend_99 : decode cX12_mend 99 = .ok (.goto 48, 3) := by decide +kernel
theorem dX12_mend_102 : decode cX12_mend 102 = .ok (.aload_n 0, 1) := by decide +kernel
theorem dX12_mend_103 : decode cX12_mend 103 = .ok (.aload_n 0, 1) := by decide +kernel
theorem dX12_mend_104 : decode cX12_mend 104 = .ok (.getfield 64, 3) := by decide +kernel
theorem dX12_mend_107 : decode cX12_mend 107 = .ok (.iconst 0, 1) := by decide +kernel
theorem dX12_mend_108 : decode cX12_mend 108 = .ok (.aload_n 0, 1) := by decide +kernel
theorem dX12_mend_109 : decode cX12_mend 109 = .ok (.getfield 135, 3) := by decide +kernel
theorem dX12_mend_112 : decode cX12_mend 112 = .ok (.invokevirtual 189, 3) := by decide +kernel
theorem dX12_mend_115 : decode cX12_mend 115 = .ok (.istore 11, 2) := by decide +kernel
theorem dX12_mend_117 : decode cX12_mend 117 = .ok (.iload_n 3, 1) := by decide +kernel
theorem dX12_mend_118 : decode cX12_mend 118 = .ok (.iconst (-1), 1) := by decide +kernel
theorem dX12_mend_119 : decode cX12_mend 119 = .ok (.if_icmp .eq 10, 3) := by decide +kernel
theorem dX12_mend_122 : decode cX12_mend 122 = .ok (.iload 11, 2) := by decide +kernel
theorem dX12_mend_124 : decode cX12_mend 124 = .ok (.iload 6, 2) := by decide +kernel
theorem dX12_mend_126 : decode cX12_mend 126 = .ok (.if_icmp .ge 18, 3) := by decide +kernel
theorem dX12_mend_129 : decode cX12_mend 129 = .ok (.iload 7, 2) := by decide +kernel
theorem dX12_mend_131 : decode cX12_mend 131 = .ok (.istore_n 3, 1) := by decide +kernel
theorem dX12_mend_132 : decode cX12_mend 132 = .ok (.iload 8, 2) := by decide +kernel
theorem dX12_mend_134 : decode cX12_mend 134 = .ok (.istore 4, 2) := by decide +kernel
theorem dX12_mend_136 : decode cX12_mend 136 = .ok (.iload 10, 2) := by decide +kernel
theorem dX12_mend_138 : decode cX12_mend 138 = .ok (.istore 5, 2) := by decide +kernel
theorem dX12_mend_140 : decode cX12_mend 140 = .ok (.iload 11, 2) := by decide +kernel
theorem dX12_mend_142 : decode cX12_mend 142 = .ok (.istore 6, 2) := by decide +kernel
theorem dX12_mend_144 : decode cX12_mend 144 = .ok (.iinc 7 1, 3) := by decide +kernel
theorem dX12_mend_147 : decode cX12_mend 147 = .ok (.iinc 10 1, 3) := by decide +kernel
theorem dX12_mend_150 : decode cX12_mend 150 = .ok (.goto (-69), 3) := by decide +kernel
theorem dX12_mend_153 : decode cX12_mend 153 = .ok (.iinc 8 1, 3) := by decide +kernel
theorem dX12_mend_156 : decode cX12_mend 156 = .ok (.goto (-106), 3) := by decide +kernel
theorem dX12_mend_159 : decode cX12_mend 159 = .ok (.iload_n 3, 1) := by decide +kernel
theorem dX12_mend_160 : decode cX12_mend 160 = .ok (.iconst (-1), 1) := by decide +kernel
theorem dX12_mend_161 : decode cX12_mend 161 = .ok (.if_icmp .eq 25, 3) := by decide +kernel
theorem dX12_mend_164 : decode cX12_mend 164 = .ok (.aload_n 0, 1) := by decide +kernel
theorem dX12_mend_165 : decode cX12_mend 165 = .ok (.aload_n 0, 1) := by decide +kernel
theorem dX12_mend_166 : decode cX12_mend 166 = .ok (.getfield 16, 3) := by decide +kernel
theorem dX12_mend_169 : decode cX12_mend 169 = .ok (.iconst 0, 1) := by decide +kernel
theorem dX12_mend_170 : decode cX12_mend 170 = .ok (.aload_n 0, 1) := by decide +kernel
theorem dX12_mend_171 : decode cX12_mend 171 = .ok (.getfield 13, 3) := by decide +kernel
theorem dX12_mend_174 : decode cX12_mend 174 = .ok (.iconst 0, 1) := by decide +kernel
theorem dX12_mend_175 : decode cX12_mend 175 = .ok (.iaload, 1) := by decide +kernel
theorem dX12_mend_176 : decode cX12_mend 176 = .ok (.invokevirtual 189, 3) := by decide +kernel
theorem dX12_mend_179 : decode cX12_mend 179 = .ok (.iload 6, 2) := by decide +kernel
theorem dX12_mend_181 : decode cX12_mend 181 = .ok (.isub, 1) := by decide +kernel
theorem dX12_mend_182 : decode cX12_mend 182 = .ok (.iload_n 2, 1) := by decide +kernel
theorem dX12_mend_183 : decode cX12_mend 183 = .ok (.if_icmp .ge 5, 3) := by decide +kernel
theorem dX12_mend_186 : decode cX12_mend 186 = .ok (.iconst (-1), 1) := by decide +kernel
theorem dX12_mend_187 : decode cX12_mend 187 = .ok (.ireturn, 1) := by decide +kernel
theorem dX12_mend_188 : decode cX12_mend 188 = .ok (.aload_n 0, 1) := by decide +kernel
theorem dX12_mend_189 : decode cX12_mend 189 = .ok (.iload 5, 2) := by decide +kernel
theorem dX12_mend_191 : decode cX12_mend 191 = .ok (.iload 4, 2) := by decide +kernel
theorem dX12_mend_193 : decode cX12_mend 193 = .ok (.invokevirtual 186, 3) := by decide +kernel
theorem dX12_mend_196 : decode cX12_mend 196 = .ok (.pop, 1) := by decide +kernel
theorem dX12_mend_197 : decode cX12_mend 197 = .ok (.aload_n 0, 1) := by decide +kernel
theorem dX12_mend_198 : decode cX12_mend 198 = .ok (.aload_n 0, 1) := by decide +kernel
theorem dX12_mend_199 : decode cX12_mend 199 = .ok (.getfield 64, 3) := by decide +kernel
theorem dX12_mend_202 : decode cX12_mend 202 = .ok (.aload_n 0, 1) := by decide +kernel
theorem dX12_mend_203 : decode cX12_mend 203 = .ok (.getfield 135, 3) := by decide +kernel
theorem dX12_mend_206 : decode cX12_mend 206 = .ok (.invokevirtual 154, 3) := by decide +kernel
theorem dX12_mend_209 : decode cX12_mend 209 = .ok (.iload_n 3, 1) := by decide +kernel
theorem dX12_mend_210 : decode cX12_mend 210 = .ok (.ireturn, 1) := by decide +kernel
set_option maxRecDepth 20000 in
theorem ggX12_takeSpan_X12_undoes : GoodIn wsX12_takeSpan wsX12_undoes := goodIn_r _ [10, 2, 1, 11, 12, 13, 14, 15, 16, 17, 9, 18, 19, 20, 21, 22, 23, 24, 25, 26, 27, 28, 29, 30, 31, 32, 33, 34, 35, 36, 37, 38, 39, 40, 41, 42, 43, 44, 45, 46, 47, 48, 49, 50, 51, 52, 53, 54, 55, 56, 57, 58, 59, 60, 61, 62, 63, 64, 65, 66, 67, 68, 69, 70, 71, 72, 73, 74, 75, 76, 77, 78, 79, 80, 81, 82, 83, 84, 85, 86, 87, 88, 89, 90, 91, 92, 93, 94, 95, 96, 97] (by decide +kernel) (by decide +kernel)
set_option maxRecDepth 20000 in
theorem gX12_takeSpan_X12_undoes : GoodIn wsX12_takeSpan (wsV RX12 174 RX12 yX12_undoes wsX12_undoes) := goodIn_app (goodIn_of _ (by decide +kernel)) ggX12_takeSpan_X12_undoes
theorem dX12_takeSpan_0 : decode cX12_takeSpan 0 = .ok (.aload_n 0, 1) := by decide +kernel
theorem dX12_takeSpan_1 : decode cX12_takeSpan 1 = .ok (.iload_n 2, 1) := by decide +kernel
theorem dX12_takeSpan_2 : decode cX12_takeSpan 2 = .ok (.iload_n 1, 1) := by decide +kernel
theorem dX12_takeSpan_3 : decode cX12_takeSpan 3 = .ok (.isub, 1) := by decide +kernel
theorem dX12_takeSpan_4 : decode cX12_takeSpan 4 = .ok (.putfield 135, 3) := by decide +kernel
theorem dX12_takeSpan_7 : decode cX12_takeSpan 7 = .ok (.iload_n 1, 1) := by decide +kernel
theorem dX12_takeSpan_8 : decode cX12_takeSpan 8 = .ok (.istore 4, 2) := by decide +kernel
theorem dX12_takeSpan_10 : decode cX12_takeSpan 10 = .ok (.iload 4, 2) := by decide +kernel
theorem dX12_takeSpan_12 : decode cX12_takeSpan 12 = .ok (.iload_n 2, 1) := by decide +kernel
theorem dX12_takeSpan_13 : decode cX12_takeSpan 13 = .ok (.if_icmp .ge 25, 3) := by decide +kernel
theorem dX12_takeSpan_16 : decode cX12_takeSpan 16 = .ok (.aload_n 0, 1) := by decide +kernel
theorem dX12_takeSpan_17 : decode cX12_takeSpan 17 = .ok (.getfield 64, 3) := by decide +kernel
theorem dX12_takeSpan_20 : decode cX12_takeSpan 20 = .ok (.iload 4, 2) := by decide +kernel
theorem dX12_takeSpan_22 : decode cX12_takeSpan 22 = .ok (.iload_n 1, 1) := by decide +kernel
theorem dX12_takeSpan_23 : decode cX12_takeSpan 23 = .ok (.isub, 1) := by decide +kernel
theorem dX12_takeSpan_24 : decode cX12_takeSpan 24 = .ok (.aload_n 0, 1) := by decide +kernel
theorem dX12_takeSpan_25 : decode cX12_takeSpan 25 = .ok (.getfield 16, 3) := by decide +kernel
theorem dX12_takeSpan_28 : decode cX12_takeSpan 28 = .ok (.iload 4, 2) := by decide +kernel
theorem dX12_takeSpan_30 : decode cX12_takeSpan 30 = .ok (.iaload, 1) := by decide +kernel
theorem dX12_takeSpan_31 : decode cX12_takeSpan 31 = .ok (.iastore, 1) := by decide +kernel
theorem dX12_takeSpan_32 : decode cX12_takeSpan 32 = .ok (.iinc 4 1, 3) := by decide +kernel
theorem dX12_takeSpan_35 : decode cX12_takeSpan 35 = .ok (.goto (-25), 3) := by decide +kernel
theorem dX12_takeSpan_38 : decode cX12_takeSpan 38 = .ok (.iload_n 3, 1) := by decide +kernel
theorem dX12_takeSpan_39 : decode cX12_takeSpan 39 = .ok (.iconst (-1), 1) := by decide +kernel
theorem dX12_takeSpan_40 : decode cX12_takeSpan 40 = .ok (.if_icmp .eq 22, 3) := by decide +kernel
theorem dX12_takeSpan_43 : decode cX12_takeSpan 43 = .ok (.aload_n 0, 1) := by decide +kernel
theorem dX12_takeSpan_44 : decode cX12_takeSpan 44 = .ok (.aload_n 0, 1) := by decide +kernel
theorem dX12_takeSpan_45 : decode cX12_takeSpan 45 = .ok (.getfield 30, 3) := by decide +kernel
theorem dX12_takeSpan_48 : decode cX12_takeSpan 48 = .ok (.iload_n 3, 1) := by decide +kernel
theorem dX12_takeSpan_49 : decode cX12_takeSpan 49 = .ok (.iaload, 1) := by decide +kernel
theorem dX12_takeSpan_50 : decode cX12_takeSpan 50 = .ok (.aload_n 0, 1) := by decide +kernel
theorem dX12_takeSpan_51 : decode cX12_takeSpan 51 = .ok (.getfield 33, 3) := by decide +kernel
theorem dX12_takeSpan_54 : decode cX12_takeSpan 54 = .ok (.iload_n 3, 1) := by decide +kernel
theorem dX12_takeSpan_55 : decode cX12_takeSpan 55 = .ok (.iaload, 1) := by decide +kernel
theorem dX12_takeSpan_56 : decode cX12_takeSpan 56 = .ok (.invokevirtual 174, 3) := by decide +kernel
theorem dX12_takeSpan_59 : decode cX12_takeSpan 59 = .ok (.ifCond .eq 7, 3) := by decide +kernel
theorem dX12_takeSpan_62 : decode cX12_takeSpan 62 = .ok (.iconst 1, 1) := by decide +kernel
theorem dX12_takeSpan_63 : decode cX12_takeSpan 63 = .ok (.goto 4, 3) := by decide +kernel
theorem dX12_takeSpan_66 : decode cX12_takeSpan 66 = .ok (.iconst 0, 1) := by decide +kernel
theorem dX12_takeSpan_67 : decode cX12_takeSpan 67 = .ok (.ireturn, 1) := by decide +kernel
set_option maxRecDepth 20000 in
theorem ggX12_parts_X12_takeSpan : GoodIn wsX12_parts wsX12_takeSpan := goodIn_r _ [16, 7, 6, 17, 18, 19, 20, 21, 22, 15, 23, 24, 25, 26, 27, 28, 29, 30, 31, 32, 33, 34, 35, 36, 37, 38, 39, 40, 41, 42, 43, 44, 45, 46, 47, 48, 49, 50, 51, 52, 53, 54, 55, 56, 57, 58, 59, 60, 61, 62, 63, 64, 65, 66, 67, 68, 69, 70, 93, 94, 95, 96, 97, 98, 99, 100, 101, 102, 103, 104, 105, 106, 107, 108, 109, 110, 111, 112, 113, 114, 115, 116, 117, 118, 119, 120, 121, 122, 123, 124, 125, 126, 127, 128, 129, 130, 131, 132] (by decide +kernel) (by decide +kernel)
set_option maxRecDepth 20000 in
theorem gX12_parts_X12_takeSpan : GoodIn wsX12_parts (wsV RX12 199 RX12 yX12_takeSpan wsX12_takeSpan) := goodIn_app (goodIn_of _ (by decide +kernel)) ggX12_parts_X12_takeSpan
set_option maxRecDepth 20000 in
theorem ggX12_parts_X12_costOf_ : GoodIn wsX12_parts wsX12_costOf_ := goodIn_r _ [74, 75, 76, 77, 15, 78, 79, 80, 81, 82, 83, 84, 85, 93, 94, 95, 96, 97, 98, 99, 100, 101, 102, 103, 104, 105, 106, 107, 108, 109, 110, 111, 112, 113, 114, 115, 116, 117, 118, 119, 120, 121, 122, 123, 124, 125, 126, 127, 128, 129, 130, 131, 132] (by decide +kernel) (by decide +kernel)
set_option maxRecDepth 20000 in
theorem gX12_parts_X12_costOf_ : GoodIn wsX12_parts (wsV RX12 189 RX12 yX12_costOf_ wsX12_costOf_) := goodIn_app (goodIn_of _ (by decide +kernel)) ggX12_parts_X12_costOf_
set_option maxRecDepth 20000 in
theorem ggX12_parts_X12_become : GoodIn wsX12_parts wsX12_become := goodIn_r _ [89, 90, 91, 3, 17, 92, 93, 94, 95, 96, 97, 98, 99, 100, 101, 102, 103, 104, 105, 106, 107, 108, 109, 110, 111, 112, 113, 114, 115, 116, 117, 118, 119, 120, 121, 122, 123, 124, 125, 126, 127, 128, 129, 130, 131, 132] (by decide +kernel) (by decide +kernel)
set_option maxRecDepth 20000 in
theorem gX12_parts_X12_become : GoodIn wsX12_parts (wsV RX12 154 RX12 yX12_become wsX12_become) := goodIn_app (goodIn_of _ (by decide +kernel)) ggX12_parts_X12_become
theorem dX12_parts_0 : decode cX12_parts 0 = .ok (.aload_n 0, 1) := by decide +kernel
theorem dX12_parts_1 : decode cX12_parts 1 = .ok (.iconst 0, 1) := by decide +kernel
theorem dX12_parts_2 : decode cX12_parts 2 = .ok (.putfield 85, 3) := by decide +kernel
theorem dX12_parts_5 : decode cX12_parts 5 = .ok (.aload_n 0, 1) := by decide +kernel
theorem dX12_parts_6 : decode cX12_parts 6 = .ok (.iconst (-1), 1) := by decide +kernel
theorem dX12_parts_7 : decode cX12_parts 7 = .ok (.putfield 55, 3) := by decide +kernel
theorem dX12_parts_10 : decode cX12_parts 10 = .ok (.aload_n 0, 1) := by decide +kernel
theorem dX12_parts_11 : decode cX12_parts 11 = .ok (.getfield 13, 3) := by decide +kernel
theorem dX12_parts_14 : decode cX12_parts 14 = .ok (.iconst 0, 1) := by decide +kernel
theorem dX12_parts_15 : decode cX12_parts 15 = .ok (.iaload, 1) := by decide +kernel
theorem dX12_parts_16 : decode cX12_parts 16 = .ok (.istore_n 2, 1) := by decide +kernel
theorem dX12_parts_17 : decode cX12_parts 17 = .ok (.iload_n 2, 1) := by decide +kernel
theorem dX12_parts_18 : decode cX12_parts 18 = .ok (.iconst 1, 1) := by decide +kernel
theorem dX12_parts_19 : decode cX12_parts 19 = .ok (.if_icmp .lt 20, 3) := by decide +kernel
theorem dX12_parts_22 : decode cX12_parts 22 = .ok (.iload_n 2, 1) := by decide +kernel
theorem dX12_parts_23 : decode cX12_parts 23 = .ok (.bipush 60, 2) := by decide +kernel
theorem dX12_parts_25 : decode cX12_parts 25 = .ok (.if_icmp .gt 14, 3) := by decide +kernel
theorem dX12_parts_28 : decode cX12_parts 28 = .ok (.iload_n 1, 1) := by decide +kernel
theorem dX12_parts_29 : decode cX12_parts 29 = .ok (.ifCond .lt 10, 3) := by decide +kernel
theorem dX12_parts_32 : decode cX12_parts 32 = .ok (.iload_n 1, 1) := by decide +kernel
theorem dX12_parts_33 : decode cX12_parts 33 = .ok (.sipush 1000, 3) := by decide +kernel
theorem dX12_parts_36 : decode cX12_parts 36 = .ok (.if_icmp .le 5, 3) := by decide +kernel
theorem dX12_parts_39 : decode cX12_parts 39 = .ok (.iconst (-1), 1) := by decide +kernel
theorem dX12_parts_40 : decode cX12_parts 40 = .ok (.ireturn, 1) := by decide +kernel
theorem dX12_parts_41 : decode cX12_parts 41 = .ok (.iload_n 2, 1) := by decide +kernel
theorem dX12_parts_42 : decode cX12_parts 42 = .ok (.iconst 1, 1) := by decide +kernel
theorem dX12_parts_43 : decode cX12_parts 43 = .ok (.isub, 1) := by decide +kernel
theorem dX12_parts_44 : decode cX12_parts 44 = .ok (.istore_n 3, 1) := by decide +kernel
theorem dX12_parts_45 : decode cX12_parts 45 = .ok (.iload_n 3, 1) := by decide +kernel
theorem dX12_parts_46 : decode cX12_parts 46 = .ok (.ifCond .lt 197, 3) := by decide +kernel
theorem dX12_parts_49 : decode cX12_parts 49 = .ok (.aload_n 0, 1) := by decide +kernel
theorem dX12_parts_50 : decode cX12_parts 50 = .ok (.getfield 73, 3) := by decide +kernel
theorem dX12_parts_53 : decode cX12_parts 53 = .ok (.iload_n 3, 1) := by decide +kernel
theorem dX12_parts_54 : decode cX12_parts 54 = .ok (.iconst 0, 1) := by decide +kernel
theorem dX12_parts_55 : decode cX12_parts 55 = .ok (.iastore, 1) := by decide +kernel
theorem dX12_parts_56 : decode cX12_parts 56 = .ok (.iload_n 2, 1) := by decide +kernel
theorem dX12_parts_57 : decode cX12_parts 57 = .ok (.istore 4, 2) := by decide +kernel
theorem dX12_parts_59 : decode cX12_parts 59 = .ok (.iload 4, 2) := by decide +kernel
theorem dX12_parts_61 : decode cX12_parts 61 = .ok (.iload_n 3, 1) := by decide +kernel
theorem dX12_parts_62 : decode cX12_parts 62 = .ok (.if_icmp .le 175, 3) := by decide +kernel
theorem dX12_parts_65 : decode cX12_parts 65 = .ok (.iconst (-1), 1) := by decide +kernel
theorem dX12_parts_66 : decode cX12_parts 66 = .ok (.istore 5, 2) := by decide +kernel
theorem dX12_parts_68 : decode cX12_parts 68 = .ok (.iload 5, 2) := by decide +kernel
theorem dX12_parts_70 : decode cX12_parts 70 = .ok (.aload_n 0, 1) := by decide +kernel
theorem dX12_parts_71 : decode cX12_parts 71 = .ok (.getfield 161, 3) := by decide +kernel
theorem dX12_parts_74 : decode cX12_parts 74 = .ok (.if_icmp .ge 157, 3) := by decide +kernel
theorem dX12_parts_77 : decode cX12_parts 77 = .ok (.aload_n 0, 1) := by decide +kernel
theorem dX12_parts_78 : decode cX12_parts 78 = .ok (.iload_n 3, 1) := by decide +kernel
theorem dX12_parts_79 : decode cX12_parts 79 = .ok (.iload 4, 2) := by decide +kernel
theorem dX12_parts_81 : decode cX12_parts 81 = .ok (.iload 5, 2) := by decide +kernel
theorem dX12_parts_83 : decode cX12_parts 83 = .ok (.invokevirtual 199, 3) := by decide +kernel
theorem dX12_parts_86 : decode cX12_parts 86 = .ok (.ifCond .ne 6, 3) := by decide +kernel
theorem dX12_parts_89 : decode cX12_parts 89 = .ok (.goto 136, 3) := by decide +kernel
theorem dX12_parts_92 : decode cX12_parts 92 = .ok (.aload_n 0, 1) := by decide +kernel
theorem dX12_parts_93 : decode cX12_parts 93 = .ok (.aload_n 0, 1) := by decide +kernel
theorem dX12_parts_94 : decode cX12_parts 94 = .ok (.getfield 64, 3) := by decide +kernel
theorem dX12_parts_97 : decode cX12_parts 97 = .ok (.iconst 0, 1) := by decide +kernel
theorem dX12_parts_98 : decode cX12_parts 98 = .ok (.aload_n 0, 1) := by decide +kernel
theorem dX12_parts_99 : decode cX12_parts 99 = .ok (.getfield 135, 3) := by decide +kernel
theorem dX12_parts_102 : decode cX12_parts 102 = .ok (.invokevirtual 189, 3) := by decide +kernel
theorem dX12_parts_105 : decode cX12_parts 105 = .ok (.iload 4, 2) := by decide +kernel
theorem dX12_parts_107 : decode cX12_parts 107 = .ok (.iload_n 2, 1) := by decide +kernel
theorem dX12_parts_108 : decode cX12_parts 108 = .ok (.if_icmp .ge 15, 3) := by decide +kernel
theorem dX12_parts_111 : decode cX12_parts 111 = .ok (.iload_n 1, 1) := by decide +kernel
theorem dX12_parts_112 : decode cX12_parts 112 = .ok (.aload_n 0, 1) := by decide +kernel
theorem dX12_parts_113 : decode cX12_parts 113 = .ok (.getfield 70, 3) := by decide +kernel
theorem dX12_parts_116 : decode cX12_parts 116 = .ok (.iload 4, 2) := by decide +kernel
theorem dX12_parts_118 : decode cX12_parts 118 = .ok (.iaload, 1) := by decide +kernel
theorem dX12_parts_119 : decode cX12_parts 119 = .ok (.iadd, 1) := by decide +kernel
theorem dX12_parts_120 : decode cX12_parts 120 = .ok (.goto 4, 3) := by decide +kernel
theorem dX12_parts_123 : decode cX12_parts 123 = .ok (.iconst 0, 1) := by decide +kernel
theorem dX12_parts_124 : decode cX12_parts 124 = .ok (.iadd, 1) := by decide +kernel
theorem dX12_parts_125 : decode cX12_parts 125 = .ok (.istore 6, 2) := by decide +kernel
theorem dX12_parts_127 : decode cX12_parts 127 = .ok (.iconst 1, 1) := by decide +kernel
theorem dX12_parts_128 : decode cX12_parts 128 = .ok (.iload 4, 2) := by decide +kernel
theorem dX12_parts_130 : decode cX12_parts 130 = .ok (.iload_n 2, 1) := by decide +kernel
theorem dX12_parts_131 : decode cX12_parts 131 = .ok (.if_icmp .ge 13, 3) := by decide +kernel
theorem dX12_parts_134 : decode cX12_parts 134 = .ok (.aload_n 0, 1) := by decide +kernel
theorem dX12_parts_135 : decode cX12_parts 135 = .ok (.getfield 73, 3) := by decide +kernel
theorem dX12_parts_138 : decode cX12_parts 138 = .ok (.iload 4, 2) := by decide +kernel
theorem dX12_parts_140 : decode cX12_parts 140 = .ok (.iaload, 1) := by decide +kernel
theorem dX12_parts_141 : decode cX12_parts 141 = .ok (.goto 4, 3) := by decide +kernel
theorem dX12_parts_144 : decode cX12_parts 144 = .ok (.iconst 0, 1) := by decide +kernel
theorem dX12_parts_145 : decode cX12_parts 145 = .ok (.iadd, 1) := by decide +kernel
theorem dX12_parts_146 : decode cX12_parts 146 = .ok (.istore 7, 2) := by decide +kernel
theorem dX12_parts_148 : decode cX12_parts 148 = .ok (.aload_n 0, 1) := by decide +kernel
theorem dX12_parts_149 : decode cX12_parts 149 = .ok (.getfield 73, 3) := by decide +kernel
theorem dX12_parts_152 : decode cX12_parts 152 = .ok (.iload_n 3, 1) := by decide +kernel
theorem dX12_parts_153 : decode cX12_parts 153 = .ok (.iaload, 1) := by decide +kernel
theorem dX12_parts_154 : decode cX12_parts 154 = .ok (.ifCond .le 39, 3) := by decide +kernel
theorem dX12_parts_157 : decode cX12_parts 157 = .ok (.iload 6, 2) := by decide +kernel
theorem dX12_parts_159 : decode cX12_parts 159 = .ok (.aload_n 0, 1) := by decide +kernel
theorem dX12_parts_160 : decode cX12_parts 160 = .ok (.getfield 70, 3) := by decide +kernel
theorem dX12_parts_163 : decode cX12_parts 163 = .ok (.iload_n 3, 1) := by decide +kernel
theorem dX12_parts_164 : decode cX12_parts 164 = .ok (.iaload, 1) := by decide +kernel
theorem dX12_parts_165 : decode cX12_parts 165 = .ok (.if_icmp .gt 60, 3) := by decide +kernel
theorem dX12_parts_168 : decode cX12_parts 168 = .ok (.iload 6, 2) := by decide +kernel
theorem dX12_parts_170 : decode cX12_parts 170 = .ok (.aload_n 0, 1) := by decide +kernel
theorem dX12_parts_171 : decode cX12_parts 171 = .ok (.getfield 70, 3) := by decide +kernel
theorem dX12_parts_174 : decode cX12_parts 174 = .ok (.iload_n 3, 1) := by decide +kernel
theorem dX12_parts_175 : decode cX12_parts 175 = .ok (.iaload, 1) := by decide +kernel
theorem dX12_parts_176 : decode cX12_parts 176 = .ok (.if_icmp .ne 17, 3) := by decide +kernel
theorem dX12_parts_179 : decode cX12_parts 179 = .ok (.iload 7, 2) := by decide +kernel
theorem dX12_parts_181 : decode cX12_parts 181 = .ok (.aload_n 0, 1) := by decide +kernel
theorem dX12_parts_182 : decode cX12_parts 182 = .ok (.getfield 73, 3) := by decide +kernel
theorem dX12_parts_185 : decode cX12_parts 185 = .ok (.iload_n 3, 1) := by decide +kernel
theorem dX12_parts_186 : decode cX12_parts 186 = .ok (.iaload, 1) := by decide +kernel
theorem dX12_parts_187 : decode cX12_parts 187 = .ok (.if_icmp .lt 6, 3) := by decide +kernel
theorem dX12_parts_190 : decode cX12_parts 190 = .ok (.goto 35, 3) := by decide +kernel
theorem dX12_parts_193 : decode cX12_parts 193 = .ok (.aload_n 0, 1) := by decide +kernel
theorem dX12_parts_194 : decode cX12_parts 194 = .ok (.getfield 70, 3) := by decide +kernel
theorem dX12_parts_197 : decode cX12_parts 197 = .ok (.iload_n 3, 1) := by decide +kernel
theorem dX12_parts_198 : decode cX12_parts 198 = .ok (.iload 6, 2) := by decide +kernel
theorem dX12_parts_200 : decode cX12_parts 200 = .ok (.iastore, 1) := by decide +kernel
theorem dX12_parts_201 : decode cX12_parts 201 = .ok (.aload_n 0, 1) := by decide +kernel
theorem dX12_parts_202 : decode cX12_parts 202 = .ok (.getfield 73, 3) := by decide +kernel
theorem dX12_parts_205 : decode cX12_parts 205 = .ok (.iload_n 3, 1) := by decide +kernel
theorem dX12_parts_206 : decode cX12_parts 206 = .ok (.iload 7, 2) := by decide +kernel
theorem dX12_parts_208 : decode cX12_parts 208 = .ok (.iastore, 1) := by decide +kernel
theorem dX12_parts_209 : decode cX12_parts 209 = .ok (.aload_n 0, 1) := by decide +kernel
theorem dX12_parts_210 : decode cX12_parts 210 = .ok (.getfield 76, 3) := by decide +kernel
theorem dX12_parts_213 : decode cX12_parts 213 = .ok (.iload_n 3, 1) := by decide +kernel
theorem dX12_parts_214 : decode cX12_parts 214 = .ok (.iload 4, 2) := by decide +kernel
theorem dX12_parts_216 : decode cX12_parts 216 = .ok (.iastore, 1) := by decide +kernel
theorem dX12_parts_217 : decode cX12_parts 217 = .ok (.aload_n 0, 1) := by decide +kernel
theorem dX12_parts_218 : decode cX12_parts 218 = .ok (.getfield 79, 3) := by decide +kernel
theorem dX12_parts_221 : decode cX12_parts 221 = .ok (.iload_n 3, 1) := by decide +kernel
theorem dX12_parts_222 : decode cX12_parts 222 = .ok (.iload 5, 2) := by decide +kernel
theorem dX12_parts_224 : decode cX12_parts 224 = .ok (.iastore, 1) := by decide +kernel
theorem dX12_parts_225 : decode cX12_parts 225 = .ok (.iinc 5 1, 3) := by decide +kernel
theorem dX12_parts_228 : decode cX12_parts 228 = .ok (.goto (-160), 3) := by decide +kernel
theorem dX12_parts_231 : decode cX12_parts 231 = .ok (.iinc 4 (-1), 3) := by decide +kernel
theorem dX12_parts_234 : decode cX12_parts 234 = .ok (.goto (-175), 3) := by decide +kernel
theorem dX12_parts_237 : decode cX12_parts 237 = .ok (.iinc 3 (-1), 3) := by decide +kernel
theorem dX12_parts_240 : decode cX12_parts 240 = .ok (.goto (-195), 3) := by decide +kernel
theorem dX12_parts_243 : decode cX12_parts 243 = .ok (.iconst 0, 1) := by decide +kernel
theorem dX12_parts_244 : decode cX12_parts 244 = .ok (.istore_n 3, 1) := by decide +kernel
theorem dX12_parts_245 : decode cX12_parts 245 = .ok (.iconst 0, 1) := by decide +kernel
theorem dX12_parts_246 : decode cX12_parts 246 = .ok (.istore 4, 2) := by decide +kernel
theorem dX12_parts_248 : decode cX12_parts 248 = .ok (.iload 4, 2) := by decide +kernel
theorem dX12_parts_250 : decode cX12_parts 250 = .ok (.iload_n 2, 1) := by decide +kernel
theorem dX12_parts_251 : decode cX12_parts 251 = .ok (.if_icmp .ge 86, 3) := by decide +kernel
theorem dX12_parts_254 : decode cX12_parts 254 = .ok (.aload_n 0, 1) := by decide +kernel
theorem dX12_parts_255 : decode cX12_parts 255 = .ok (.iload 4, 2) := by decide +kernel
theorem dX12_parts_257 : decode cX12_parts 257 = .ok (.aload_n 0, 1) := by decide +kernel
theorem dX12_parts_258 : decode cX12_parts 258 = .ok (.getfield 76, 3) := by decide +kernel
theorem dX12_parts_261 : decode cX12_parts 261 = .ok (.iload 4, 2) := by decide +kernel
theorem dX12_parts_263 : decode cX12_parts 263 = .ok (.iaload, 1) := by decide +kernel
theorem dX12_parts_264 : decode cX12_parts 264 = .ok (.aload_n 0, 1) := by decide +kernel
theorem dX12_parts_265 : decode cX12_parts 265 = .ok (.getfield 79, 3) := by decide +kernel
theorem dX12_parts_268 : decode cX12_parts 268 = .ok (.iload 4, 2) := by decide +kernel
theorem dX12_parts_270 : decode cX12_parts 270 = .ok (.iaload, 1) := by decide +kernel
theorem dX12_parts_271 : decode cX12_parts 271 = .ok (.invokevirtual 199, 3) := by decide +kernel
theorem dX12_parts_274 : decode cX12_parts 274 = .ok (.pop, 1) := by decide +kernel
theorem dX12_parts_275 : decode cX12_parts 275 = .ok (.iconst 0, 1) := by decide +kernel
theorem dX12_parts_276 : decode cX12_parts 276 = .ok (.istore 5, 2) := by decide +kernel
theorem dX12_parts_278 : decode cX12_parts 278 = .ok (.iload 5, 2) := by decide +kernel
theorem dX12_parts_280 : decode cX12_parts 280 = .ok (.aload_n 0, 1) := by decide +kernel
theorem dX12_parts_281 : decode cX12_parts 281 = .ok (.getfield 135, 3) := by decide +kernel
theorem dX12_parts_284 : decode cX12_parts 284 = .ok (.if_icmp .ge 25, 3) := by decide +kernel
theorem dX12_parts_287 : decode cX12_parts 287 = .ok (.aload_n 0, 1) := by decide +kernel
theorem dX12_parts_288 : decode cX12_parts 288 = .ok (.getfield 82, 3) := by decide +kernel
theorem dX12_parts_291 : decode cX12_parts 291 = .ok (.iload_n 3, 1) := by decide +kernel
theorem dX12_parts_292 : decode cX12_parts 292 = .ok (.iload 5, 2) := by decide +kernel
theorem dX12_parts_294 : decode cX12_parts 294 = .ok (.iadd, 1) := by decide +kernel
theorem dX12_parts_295 : decode cX12_parts 295 = .ok (.aload_n 0, 1) := by decide +kernel
theorem dX12_parts_296 : decode cX12_parts 296 = .ok (.getfield 64, 3) := by decide +kernel
theorem dX12_parts_299 : decode cX12_parts 299 = .ok (.iload 5, 2) := by decide +kernel
theorem dX12_parts_301 : decode cX12_parts 301 = .ok (.iaload, 1) := by decide +kernel
theorem dX12_parts_302 : decode cX12_parts 302 = .ok (.iastore, 1) := by decide +kernel
theorem dX12_parts_303 : decode cX12_parts 303 = .ok (.iinc 5 1, 3) := by decide +kernel
theorem dX12_parts_306 : decode cX12_parts 306 = .ok (.goto (-28), 3) := by decide +kernel
theorem dX12_parts_309 : decode cX12_parts 309 = .ok (.iload_n 3, 1) := by decide +kernel
theorem dX12_parts_310 : decode cX12_parts 310 = .ok (.aload_n 0, 1) := by decide +kernel
theorem dX12_parts_311 : decode cX12_parts 311 = .ok (.getfield 135, 3) := by decide +kernel
theorem dX12_parts_314 : decode cX12_parts 314 = .ok (.iadd, 1) := by decide +kernel
theorem dX12_parts_315 : decode cX12_parts 315 = .ok (.istore_n 3, 1) := by decide +kernel
theorem dX12_parts_316 : decode cX12_parts 316 = .ok (.iload_n 3, 1) := by decide +kernel
theorem dX12_parts_317 : decode cX12_parts 317 = .ok (.sipush 300, 3) := by decide +kernel
theorem dX12_parts_320 : decode cX12_parts 320 = .ok (.if_icmp .le 5, 3) := by decide +kernel
theorem dX12_parts_323 : decode cX12_parts 323 = .ok (.iconst (-1), 1) := by decide +kernel
theorem dX12_parts_324 : decode cX12_parts 324 = .ok (.ireturn, 1) := by decide +kernel
theorem dX12_parts_325 : decode cX12_parts 325 = .ok (.aload_n 0, 1) := by decide +kernel
theorem dX12_parts_326 : decode cX12_parts 326 = .ok (.getfield 76, 3) := by decide +kernel
theorem dX12_parts_329 : decode cX12_parts 329 = .ok (.iload 4, 2) := by decide +kernel
theorem dX12_parts_331 : decode cX12_parts 331 = .ok (.iaload, 1) := by decide +kernel
theorem dX12_parts_332 : decode cX12_parts 332 = .ok (.istore 4, 2) := by decide +kernel
theorem dX12_parts_334 : decode cX12_parts 334 = .ok (.goto (-86), 3) := by decide +kernel
theorem dX12_parts_337 : decode cX12_parts 337 = .ok (.aload_n 0, 1) := by decide +kernel
theorem dX12_parts_338 : decode cX12_parts 338 = .ok (.getfield 73, 3) := by decide +kernel
theorem dX12_parts_341 : decode cX12_parts 341 = .ok (.iconst 0, 1) := by decide +kernel
theorem dX12_parts_342 : decode cX12_parts 342 = .ok (.iaload, 1) := by decide +kernel
theorem dX12_parts_343 : decode cX12_parts 343 = .ok (.istore 4, 2) := by decide +kernel
theorem dX12_parts_345 : decode cX12_parts 345 = .ok (.aload_n 0, 1) := by decide +kernel
theorem dX12_parts_346 : decode cX12_parts 346 = .ok (.aload_n 0, 1) := by decide +kernel
theorem dX12_parts_347 : decode cX12_parts 347 = .ok (.getfield 82, 3) := by decide +kernel
theorem dX12_parts_350 : decode cX12_parts 350 = .ok (.iload_n 3, 1) := by decide +kernel
theorem dX12_parts_351 : decode cX12_parts 351 = .ok (.invokevirtual 154, 3) := by decide +kernel
theorem dX12_parts_354 : decode cX12_parts 354 = .ok (.iload 4, 2) := by decide +kernel
theorem dX12_parts_356 : decode cX12_parts 356 = .ok (.ireturn, 1) := by decide +kernel
set_option maxRecDepth 20000 in
theorem ggX12_writeWith_X12_put : GoodIn wsX12_writeWith wsX12_put := goodIn_r _ [10, 11, 1, 18, 19, 20, 21, 22, 23, 24, 25, 26, 27, 28, 29, 30, 31, 32, 33, 34, 35, 36, 37, 38, 39, 40, 41, 42, 43, 44, 45, 46, 47, 48, 49, 50, 51, 52, 53, 54, 55, 56, 57] (by decide +kernel) (by decide +kernel)
set_option maxRecDepth 20000 in
theorem gX12_writeWith_X12_put : GoodIn wsX12_writeWith (wsV RX12 94 RX12 yX12_put wsX12_put) := goodIn_app (goodIn_of _ (by decide +kernel)) ggX12_writeWith_X12_put
set_option maxRecDepth 20000 in
theorem ggX12_writeWith_X12_writeLetter : GoodIn wsX12_writeWith wsX12_writeLetter := goodIn_r _ [15, 16, 17, 6, 7, 8, 9, 10, 11, 1, 18, 19, 20, 21, 22, 23, 24, 25, 26, 27, 28, 29, 30, 31, 32, 33, 34, 35, 36, 37, 38, 39, 40, 41, 42, 43, 44, 45, 46, 47, 48, 49, 50, 51, 52, 53, 54, 55, 56, 57] (by decide +kernel) (by decide +kernel)
set_option maxRecDepth 20000 in
theorem gX12_writeWith_X12_writeLetter : GoodIn wsX12_writeWith (wsV RX12 98 RX12 yX12_writeLetter wsX12_writeLetter) := goodIn_app (goodIn_of _ (by decide +kernel)) ggX12_writeWith_X12_writeLetter
theorem dX12_writeWith_0 : decode cX12_writeWith 0 = .ok (.aload_n 0, 1) := by decide +kernel
theorem dX12_writeWith_1 : decode cX12_writeWith 1 = .ok (.iconst 0, 1) := by decide +kernel
theorem dX12_writeWith_2 : decode cX12_writeWith 2 = .ok (.putfield 91, 3) := by decide +kernel
theorem dX12_writeWith_5 : decode cX12_writeWith 5 = .ok (.iconst 1, 1) := by decide +kernel
theorem dX12_writeWith_6 : decode cX12_writeWith 6 = .ok (.istore 4, 2) := by decide +kernel
theorem dX12_writeWith_8 : decode cX12_writeWith 8 = .ok (.iconst 0, 1) := by decide +kernel
theorem dX12_writeWith_9 : decode cX12_writeWith 9 = .ok (.istore 5, 2) := by decide +kernel
theorem dX12_writeWith_11 : decode cX12_writeWith 11 = .ok (.iload 5, 2) := by decide +kernel
theorem dX12_writeWith_13 : decode cX12_writeWith 13 = .ok (.aload_n 0, 1) := by decide +kernel
theorem dX12_writeWith_14 : decode cX12_writeWith 14 = .ok (.getfield 13, 3) := by decide +kernel
theorem dX12_writeWith_17 : decode cX12_writeWith 17 = .ok (.iconst 0, 1) := by decide +kernel
theorem dX12_writeWith_18 : decode cX12_writeWith 18 = .ok (.iaload, 1) := by decide +kernel
theorem dX12_writeWith_19 : decode cX12_writeWith 19 = .ok (.if_icmp .ge 64, 3) := by decide +kernel
theorem dX12_writeWith_22 : decode cX12_writeWith 22 = .ok (.aload_n 0, 1) := by decide +kernel
theorem dX12_writeWith_23 : decode cX12_writeWith 23 = .ok (.getfield 16, 3) := by decide +kernel
theorem dX12_writeWith_26 : decode cX12_writeWith 26 = .ok (.iload 5, 2) := by decide +kernel
theorem dX12_writeWith_28 : decode cX12_writeWith 28 = .ok (.iaload, 1) := by decide +kernel
theorem dX12_writeWith_29 : decode cX12_writeWith 29 = .ok (.ldc 126, 2) := by decide +kernel
theorem dX12_writeWith_31 : decode cX12_writeWith 31 = .ok (.if_icmp .ne 23, 3) := by decide +kernel
theorem dX12_writeWith_34 : decode cX12_writeWith 34 = .ok (.aload_n 0, 1) := by decide +kernel
theorem dX12_writeWith_35 : decode cX12_writeWith 35 = .ok (.iload 4, 2) := by decide +kernel
theorem dX12_writeWith_37 : decode cX12_writeWith 37 = .ok (.ifCond .eq 7, 3) := by decide +kernel
theorem dX12_writeWith_40 : decode cX12_writeWith 40 = .ok (.iload_n 2, 1) := by decide +kernel
theorem dX12_writeWith_41 : decode cX12_writeWith 41 = .ok (.goto 4, 3) := by decide +kernel
theorem dX12_writeWith_44 : decode cX12_writeWith 44 = .ok (.iload_n 3, 1) := by decide +kernel
theorem dX12_writeWith_45 : decode cX12_writeWith 45 = .ok (.invokevirtual 94, 3) := by decide +kernel
theorem dX12_writeWith_48 : decode cX12_writeWith 48 = .ok (.iconst 0, 1) := by decide +kernel
theorem dX12_writeWith_49 : decode cX12_writeWith 49 = .ok (.istore 4, 2) := by decide +kernel
theorem dX12_writeWith_51 : decode cX12_writeWith 51 = .ok (.goto 26, 3) := by decide +kernel
theorem dX12_writeWith_54 : decode cX12_writeWith 54 = .ok (.aload_n 0, 1) := by decide +kernel
theorem dX12_writeWith_55 : decode cX12_writeWith 55 = .ok (.iload_n 1, 1) := by decide +kernel
theorem dX12_writeWith_56 : decode cX12_writeWith 56 = .ok (.aload_n 0, 1) := by decide +kernel
theorem dX12_writeWith_57 : decode cX12_writeWith 57 = .ok (.getfield 16, 3) := by decide +kernel
theorem dX12_writeWith_60 : decode cX12_writeWith 60 = .ok (.iload 5, 2) := by decide +kernel
theorem dX12_writeWith_62 : decode cX12_writeWith 62 = .ok (.iaload, 1) := by decide +kernel
theorem dX12_writeWith_63 : decode cX12_writeWith 63 = .ok (.invokevirtual 98, 3) := by decide +kernel
theorem dX12_writeWith_66 : decode cX12_writeWith 66 = .ok (.ifCond .ne 11, 3) := by decide +kernel
theorem dX12_writeWith_69 : decode cX12_writeWith 69 = .ok (.aload_n 0, 1) := by decide +kernel
theorem dX12_writeWith_70 : decode cX12_writeWith 70 = .ok (.iload 5, 2) := by decide +kernel
theorem dX12_writeWith_72 : decode cX12_writeWith 72 = .ok (.putfield 102, 3) := by decide +kernel
theorem dX12_writeWith_75 : decode cX12_writeWith 75 = .ok (.iconst 0, 1) := by decide +kernel
theorem dX12_writeWith_76 : decode cX12_writeWith 76 = .ok (.ireturn, 1) := by decide +kernel
theorem dX12_writeWith_77 : decode cX12_writeWith 77 = .ok (.iinc 5 1, 3) := by decide +kernel
theorem dX12_writeWith_80 : decode cX12_writeWith 80 = .ok (.goto (-69), 3) := by decide +kernel
theorem dX12_writeWith_83 : decode cX12_writeWith 83 = .ok (.iconst 1, 1) := by decide +kernel
theorem dX12_writeWith_84 : decode cX12_writeWith 84 = .ok (.ireturn, 1) := by decide +kernel
set_option maxRecDepth 20000 in
theorem ggX12_isAlone_X12_readAt : GoodIn wsX12_isAlone wsX12_readAt := goodIn_r _ [7, 1, 8, 9, 10, 11, 12, 6, 13, 2, 14, 15, 16, 17, 18, 19, 20, 21, 22, 23, 24, 25, 26, 27, 28, 29, 30, 31, 32, 33, 34, 35, 36, 37, 38, 39, 40, 41, 42, 43, 44, 45, 46, 47, 48, 49, 50, 51, 52, 53, 54, 55, 56, 57, 58, 59, 60, 61, 62] (by decide +kernel) (by decide +kernel)
set_option maxRecDepth 20000 in
theorem gX12_isAlone_X12_readAt : GoodIn wsX12_isAlone (wsV RX12 122 RX12 yX12_readAt wsX12_readAt) := goodIn_app (goodIn_of _ (by decide +kernel)) ggX12_isAlone_X12_readAt
theorem dX12_isAlone_0 : decode cX12_isAlone 0 = .ok (.aload_n 0, 1) := by decide +kernel
theorem dX12_isAlone_1 : decode cX12_isAlone 1 = .ok (.getfield 58, 3) := by decide +kernel
theorem dX12_isAlone_4 : decode cX12_isAlone 4 = .ok (.iconst 0, 1) := by decide +kernel
theorem dX12_isAlone_5 : decode cX12_isAlone 5 = .ok (.iload_n 2, 1) := by decide +kernel
theorem dX12_isAlone_6 : decode cX12_isAlone 6 = .ok (.iastore, 1) := by decide +kernel
theorem dX12_isAlone_7 : decode cX12_isAlone 7 = .ok (.aload_n 0, 1) := by decide +kernel
theorem dX12_isAlone_8 : decode cX12_isAlone 8 = .ok (.iconst 1, 1) := by decide +kernel
theorem dX12_isAlone_9 : decode cX12_isAlone 9 = .ok (.putfield 91, 3) := by decide +kernel
theorem dX12_isAlone_12 : decode cX12_isAlone 12 = .ok (.aload_n 0, 1) := by decide +kernel
theorem dX12_isAlone_13 : decode cX12_isAlone 13 = .ok (.iload_n 1, 1) := by decide +kernel
theorem dX12_isAlone_14 : decode cX12_isAlone 14 = .ok (.iconst 0, 1) := by decide +kernel
theorem dX12_isAlone_15 : decode cX12_isAlone 15 = .ok (.invokevirtual 122, 3) := by decide +kernel
theorem dX12_isAlone_18 : decode cX12_isAlone 18 = .ok (.ifCond .le 7, 3) := by decide +kernel
theorem dX12_isAlone_21 : decode cX12_isAlone 21 = .ok (.iconst 1, 1) := by decide +kernel
theorem dX12_isAlone_22 : decode cX12_isAlone 22 = .ok (.goto 4, 3) := by decide +kernel
theorem dX12_isAlone_25 : decode cX12_isAlone 25 = .ok (.iconst 0, 1) := by decide +kernel
theorem dX12_isAlone_26 : decode cX12_isAlone 26 = .ok (.ireturn, 1) := by decide +kernel
set_option maxRecDepth 20000 in
theorem ggX12_isChoice_X12_writeWith : GoodIn wsX12_isChoice wsX12_writeWith := goodIn_r _ [12, 5, 6, 7, 13, 14, 15, 16, 17, 11, 18, 19, 20, 21, 22, 23, 24, 25, 52, 53, 54, 55, 56, 57, 58, 59, 60, 61, 62, 63, 64, 65, 66, 67, 68, 69, 70, 71, 72, 73, 74, 75, 76, 77, 78, 79, 80, 81, 82, 83, 84, 85, 86, 87, 88, 89, 90, 91] (by decide +kernel) (by decide +kernel)
set_option maxRecDepth 20000 in
theorem gX12_isChoice_X12_writeWith : GoodIn wsX12_isChoice (wsV RX12 203 RX12 yX12_writeWith wsX12_writeWith) := goodIn_app (goodIn_of _ (by decide +kernel)) ggX12_isChoice_X12_writeWith
set_option maxRecDepth 20000 in
theorem ggX12_isChoice_X12_read : GoodIn wsX12_isChoice wsX12_read := goodIn_r _ [29, 1, 5, 14, 4, 13, 30, 31, 32, 33, 11, 34, 19, 35, 36, 37, 38, 39, 40, 41, 42, 43, 44, 45, 25, 46, 47, 52, 53, 54, 55, 56, 57, 58, 59, 60, 61, 62, 63, 64, 65, 66, 67, 68, 69, 70, 71, 72, 73, 74, 75, 76, 77, 78, 79, 80, 81, 82, 83, 84, 85, 86, 87, 88, 89, 90, 91] (by decide +kernel) (by decide +kernel)
set_option maxRecDepth 20000 in
theorem gX12_isChoice_X12_read : GoodIn wsX12_isChoice (wsV RX12 131 RX12 yX12_read wsX12_read) := goodIn_app (goodIn_of _ (by decide +kernel)) ggX12_isChoice_X12_read
set_option maxRecDepth 20000 in
theorem ggX12_isChoice_X12_write : GoodIn wsX12_isChoice wsX12_write := goodIn_r _ [51, 5, 14, 20, 21, 22, 11, 23, 24, 25, 15, 16, 17, 18, 19, 52, 53, 54, 55, 56, 57, 58, 59, 60, 61, 62, 63, 64, 65, 66, 67, 68, 69, 70, 71, 72, 73, 74, 75, 76, 77, 78, 79, 80, 81, 82, 83, 84, 85, 86, 87, 88, 89, 90, 91] (by decide +kernel) (by decide +kernel)
set_option maxRecDepth 20000 in
theorem gX12_isChoice_X12_write : GoodIn wsX12_isChoice (wsV RX12 127 RX12 yX12_write wsX12_write) := goodIn_app (goodIn_of _ (by decide +kernel)) ggX12_isChoice_X12_write
theorem dX12_isChoice_0 : decode cX12_isChoice 0 = .ok (.aload_n 0, 1) := by decide +kernel
theorem dX12_isChoice_1 : decode cX12_isChoice 1 = .ok (.iload_n 2, 1) := by decide +kernel
theorem dX12_isChoice_2 : decode cX12_isChoice 2 = .ok (.iload_n 3, 1) := by decide +kernel
theorem dX12_isChoice_3 : decode cX12_isChoice 3 = .ok (.iload 4, 2) := by decide +kernel
theorem dX12_isChoice_5 : decode cX12_isChoice 5 = .ok (.invokevirtual 203, 3) := by decide +kernel
theorem dX12_isChoice_8 : decode cX12_isChoice 8 = .ok (.ifCond .eq 22, 3) := by decide +kernel
theorem dX12_isChoice_11 : decode cX12_isChoice 11 = .ok (.aload_n 0, 1) := by decide +kernel
theorem dX12_isChoice_12 : decode cX12_isChoice 12 = .ok (.iload_n 1, 1) := by decide +kernel
theorem dX12_isChoice_13 : decode cX12_isChoice 13 = .ok (.iconst 0, 1) := by decide +kernel
theorem dX12_isChoice_14 : decode cX12_isChoice 14 = .ok (.invokevirtual 131, 3) := by decide +kernel
theorem dX12_isChoice_17 : decode cX12_isChoice 17 = .ok (.ifCond .eq 13, 3) := by decide +kernel
theorem dX12_isChoice_20 : decode cX12_isChoice 20 = .ok (.aload_n 0, 1) := by decide +kernel
theorem dX12_isChoice_21 : decode cX12_isChoice 21 = .ok (.getfield 119, 3) := by decide +kernel
theorem dX12_isChoice_24 : decode cX12_isChoice 24 = .ok (.sipush 300, 3) := by decide +kernel
theorem dX12_isChoice_27 : decode cX12_isChoice 27 = .ok (.if_icmp .le 5, 3) := by decide +kernel
theorem dX12_isChoice_30 : decode cX12_isChoice 30 = .ok (.iconst 0, 1) := by decide +kernel
theorem dX12_isChoice_31 : decode cX12_isChoice 31 = .ok (.ireturn, 1) := by decide +kernel
theorem dX12_isChoice_32 : decode cX12_isChoice 32 = .ok (.aload_n 0, 1) := by decide +kernel
theorem dX12_isChoice_33 : decode cX12_isChoice 33 = .ok (.aload_n 0, 1) := by decide +kernel
theorem dX12_isChoice_34 : decode cX12_isChoice 34 = .ok (.getfield 119, 3) := by decide +kernel
theorem dX12_isChoice_37 : decode cX12_isChoice 37 = .ok (.putfield 135, 3) := by decide +kernel
theorem dX12_isChoice_40 : decode cX12_isChoice 40 = .ok (.iconst 0, 1) := by decide +kernel
theorem dX12_isChoice_41 : decode cX12_isChoice 41 = .ok (.istore 5, 2) := by decide +kernel
theorem dX12_isChoice_43 : decode cX12_isChoice 43 = .ok (.iload 5, 2) := by decide +kernel
theorem dX12_isChoice_45 : decode cX12_isChoice 45 = .ok (.aload_n 0, 1) := by decide +kernel
theorem dX12_isChoice_46 : decode cX12_isChoice 46 = .ok (.getfield 135, 3) := by decide +kernel
theorem dX12_isChoice_49 : decode cX12_isChoice 49 = .ok (.if_icmp .ge 23, 3) := by decide +kernel
theorem dX12_isChoice_52 : decode cX12_isChoice 52 = .ok (.aload_n 0, 1) := by decide +kernel
theorem dX12_isChoice_53 : decode cX12_isChoice 53 = .ok (.getfield 64, 3) := by decide +kernel
theorem dX12_isChoice_56 : decode cX12_isChoice 56 = .ok (.iload 5, 2) := by decide +kernel
theorem dX12_isChoice_58 : decode cX12_isChoice 58 = .ok (.aload_n 0, 1) := by decide +kernel
theorem dX12_isChoice_59 : decode cX12_isChoice 59 = .ok (.getfield 61, 3) := by decide +kernel
theorem dX12_isChoice_62 : decode cX12_isChoice 62 = .ok (.iload 5, 2) := by decide +kernel
theorem dX12_isChoice_64 : decode cX12_isChoice 64 = .ok (.iaload, 1) := by decide +kernel
theorem dX12_isChoice_65 : decode cX12_isChoice 65 = .ok (.iastore, 1) := by decide +kernel
theorem dX12_isChoice_66 : decode cX12_isChoice 66 = .ok (.iinc 5 1, 3) := by decide +kernel
theorem dX12_isChoice_69 : decode cX12_isChoice 69 = .ok (.goto (-26), 3) := by decide +kernel
theorem dX12_isChoice_72 : decode cX12_isChoice 72 = .ok (.aload_n 0, 1) := by decide +kernel
theorem dX12_isChoice_73 : decode cX12_isChoice 73 = .ok (.iload_n 1, 1) := by decide +kernel
theorem dX12_isChoice_74 : decode cX12_isChoice 74 = .ok (.aload_n 0, 1) := by decide +kernel
theorem dX12_isChoice_75 : decode cX12_isChoice 75 = .ok (.getfield 64, 3) := by decide +kernel
theorem dX12_isChoice_78 : decode cX12_isChoice 78 = .ok (.aload_n 0, 1) := by decide +kernel
theorem dX12_isChoice_79 : decode cX12_isChoice 79 = .ok (.getfield 135, 3) := by decide +kernel
theorem dX12_isChoice_82 : decode cX12_isChoice 82 = .ok (.invokevirtual 127, 3) := by decide +kernel
theorem dX12_isChoice_85 : decode cX12_isChoice 85 = .ok (.ifCond .eq 13, 3) := by decide +kernel
theorem dX12_isChoice_88 : decode cX12_isChoice 88 = .ok (.aload_n 0, 1) := by decide +kernel
theorem dX12_isChoice_89 : decode cX12_isChoice 89 = .ok (.getfield 91, 3) := by decide +kernel
theorem dX12_isChoice_92 : decode cX12_isChoice 92 = .ok (.sipush 900, 3) := by decide +kernel
theorem dX12_isChoice_95 : decode cX12_isChoice 95 = .ok (.if_icmp .le 5, 3) := by decide +kernel
theorem dX12_isChoice_98 : decode cX12_isChoice 98 = .ok (.iconst 0, 1) := by decide +kernel
theorem dX12_isChoice_99 : decode cX12_isChoice 99 = .ok (.ireturn, 1) := by decide +kernel
theorem dX12_isChoice_100 : decode cX12_isChoice 100 = .ok (.aload_n 0, 1) := by decide +kernel
theorem dX12_isChoice_101 : decode cX12_isChoice 101 = .ok (.iload_n 2, 1) := by decide +kernel
theorem dX12_isChoice_102 : decode cX12_isChoice 102 = .ok (.iconst 1, 1) := by decide +kernel
theorem dX12_isChoice_103 : decode cX12_isChoice 103 = .ok (.invokevirtual 131, 3) := by decide +kernel
theorem dX12_isChoice_106 : decode cX12_isChoice 106 = .ok (.pop, 1) := by decide +kernel
theorem dX12_isChoice_107 : decode cX12_isChoice 107 = .ok (.aload_n 0, 1) := by decide +kernel
theorem dX12_isChoice_108 : decode cX12_isChoice 108 = .ok (.getfield 119, 3) := by decide +kernel
theorem dX12_isChoice_111 : decode cX12_isChoice 111 = .ok (.aload_n 0, 1) := by decide +kernel
theorem dX12_isChoice_112 : decode cX12_isChoice 112 = .ok (.getfield 13, 3) := by decide +kernel
theorem dX12_isChoice_115 : decode cX12_isChoice 115 = .ok (.iconst 0, 1) := by decide +kernel
theorem dX12_isChoice_116 : decode cX12_isChoice 116 = .ok (.iaload, 1) := by decide +kernel
theorem dX12_isChoice_117 : decode cX12_isChoice 117 = .ok (.if_icmp .ne 7, 3) := by decide +kernel
theorem dX12_isChoice_120 : decode cX12_isChoice 120 = .ok (.iconst 1, 1) := by decide +kernel
theorem dX12_isChoice_121 : decode cX12_isChoice 121 = .ok (.goto 4, 3) := by decide +kernel
theorem dX12_isChoice_124 : decode cX12_isChoice 124 = .ok (.iconst 0, 1) := by decide +kernel
theorem dX12_isChoice_125 : decode cX12_isChoice 125 = .ok (.istore 5, 2) := by decide +kernel
theorem dX12_isChoice_127 : decode cX12_isChoice 127 = .ok (.iconst 0, 1) := by decide +kernel
theorem dX12_isChoice_128 : decode cX12_isChoice 128 = .ok (.istore 6, 2) := by decide +kernel
theorem dX12_isChoice_130 : decode cX12_isChoice 130 = .ok (.iload 5, 2) := by decide +kernel
theorem dX12_isChoice_132 : decode cX12_isChoice 132 = .ok (.ifCond .eq 42, 3) := by decide +kernel
theorem dX12_isChoice_135 : decode cX12_isChoice 135 = .ok (.iload 6, 2) := by decide +kernel
theorem dX12_isChoice_137 : decode cX12_isChoice 137 = .ok (.aload_n 0, 1) := by decide +kernel
theorem dX12_isChoice_138 : decode cX12_isChoice 138 = .ok (.getfield 119, 3) := by decide +kernel
theorem dX12_isChoice_141 : decode cX12_isChoice 141 = .ok (.if_icmp .ge 33, 3) := by decide +kernel
theorem dX12_isChoice_144 : decode cX12_isChoice 144 = .ok (.aload_n 0, 1) := by decide +kernel
theorem dX12_isChoice_145 : decode cX12_isChoice 145 = .ok (.getfield 61, 3) := by decide +kernel
theorem dX12_isChoice_148 : decode cX12_isChoice 148 = .ok (.iload 6, 2) := by decide +kernel
theorem dX12_isChoice_150 : decode cX12_isChoice 150 = .ok (.iaload, 1) := by decide +kernel
theorem dX12_isChoice_151 : decode cX12_isChoice 151 = .ok (.aload_n 0, 1) := by decide +kernel
theorem dX12_isChoice_152 : decode cX12_isChoice 152 = .ok (.getfield 16, 3) := by decide +kernel
theorem dX12_isChoice_155 : decode cX12_isChoice 155 = .ok (.iload 6, 2) := by decide +kernel
theorem dX12_isChoice_157 : decode cX12_isChoice 157 = .ok (.iaload, 1) := by decide +kernel
theorem dX12_isChoice_158 : decode cX12_isChoice 158 = .ok (.if_icmp .ne 7, 3) := by decide +kernel
theorem dX12_isChoice_161 : decode cX12_isChoice 161 = .ok (.iconst 1, 1) := by decide +kernel
theorem dX12_isChoice_162 : decode cX12_isChoice 162 = .ok (.goto 4, 3) := by decide +kernel
theorem dX12_isChoice_165 : decode cX12_isChoice 165 = .ok (.iconst 0, 1) := by decide +kernel
theorem dX12_isChoice_166 : decode cX12_isChoice 166 = .ok (.istore 5, 2) := by decide +kernel
theorem dX12_isChoice_168 : decode cX12_isChoice 168 = .ok (.iinc 6 1, 3) := by decide +kernel
theorem dX12_isChoice_171 : decode cX12_isChoice 171 = .ok (.goto (-41), 3) := by decide +kernel
theorem dX12_isChoice_174 : decode cX12_isChoice 174 = .ok (.iload 5, 2) := by decide +kernel
theorem dX12_isChoice_176 : decode cX12_isChoice 176 = .ok (.ireturn, 1) := by decide +kernel
set_option maxRecDepth 20000 in
theorem ggX12_choices_X12_marksOf : GoodIn wsX12_choices wsX12_marksOf := goodIn_r _ [17, 3, 18, 19, 90, 91, 92, 93, 94, 95, 96, 97, 98, 99, 100, 101, 102, 103, 104, 105, 106, 107, 108, 109, 110, 111, 112, 113, 114, 115, 116, 117, 118, 119, 120, 121, 122, 123, 124, 125, 126, 127, 128, 129] (by decide +kernel) (by decide +kernel)
set_option maxRecDepth 20000 in
theorem gX12_choices_X12_marksOf : GoodIn wsX12_choices (wsV RX12 164 RX12 yX12_marksOf wsX12_marksOf) := goodIn_app (goodIn_of _ (by decide +kernel)) ggX12_choices_X12_marksOf
set_option maxRecDepth 20000 in
theorem ggX12_choices_X12_isCode : GoodIn wsX12_choices wsX12_isCode := goodIn_r _ [22] (by decide +kernel) (by decide +kernel)
set_option maxRecDepth 20000 in
theorem gX12_choices_X12_isCode : GoodIn wsX12_choices (va_wsS RX12 158 yX12_isCode wsX12_isCode) := goodIn_app (goodIn_of _ (by decide +kernel)) ggX12_choices_X12_isCode
set_option maxRecDepth 20000 in
theorem ggX12_choices_X12_writeWith : GoodIn wsX12_choices wsX12_writeWith := goodIn_r _ [26, 27, 3, 18, 19, 4, 28, 29, 30, 16, 31, 32, 33, 34, 35, 36, 37, 38, 90, 91, 92, 93, 94, 95, 96, 97, 98, 99, 100, 101, 102, 103, 104, 105, 106, 107, 108, 109, 110, 111, 112, 113, 114, 115, 116, 117, 118, 119, 120, 121, 122, 123, 124, 125, 126, 127, 128, 129] (by decide +kernel) (by decide +kernel)
set_option maxRecDepth 20000 in
theorem gX12_choices_X12_writeWith : GoodIn wsX12_choices (wsV RX12 203 RX12 yX12_writeWith wsX12_writeWith) := goodIn_app (goodIn_of _ (by decide +kernel)) ggX12_choices_X12_writeWith
set_option maxRecDepth 20000 in
theorem ggX12_choices_X12_isAlone : GoodIn wsX12_choices wsX12_isAlone := goodIn_r _ [42, 32, 27, 43, 44, 45, 16, 46, 47, 48, 49, 50, 51, 52, 53, 54, 55, 56, 57, 58, 38, 59, 60, 90, 91, 92, 93, 94, 95, 96, 97, 98, 99, 100, 101, 102, 103, 104, 105, 106, 107, 108, 109, 110, 111, 112, 113, 114, 115, 116, 117, 118, 119, 120, 121, 122, 123, 124, 125, 126, 127, 128, 129] (by decide +kernel) (by decide +kernel)
set_option maxRecDepth 20000 in
theorem gX12_choices_X12_isAlone : GoodIn wsX12_choices (wsV RX12 206 RX12 yX12_isAlone wsX12_isAlone) := goodIn_app (goodIn_of _ (by decide +kernel)) ggX12_choices_X12_isAlone
set_option maxRecDepth 20000 in
theorem ggX12_choices_X12_isChoice : GoodIn wsX12_choices wsX12_isChoice := goodIn_r _ [64, 65, 6, 5, 66, 27, 3, 18, 23, 24, 25, 16, 26, 19, 4, 28, 29, 30, 31, 32, 33, 34, 35, 36, 37, 38, 67, 68, 69, 70, 47, 43, 44, 45, 46, 48, 49, 50, 51, 52, 53, 54, 55, 56, 57, 58, 59, 60, 71, 72, 73, 74, 90, 91, 92, 93, 94, 95, 96, 97, 98, 99, 100, 101, 102, 103, 104, 105, 106, 107, 108, 109, 110, 111, 112, 113, 114, 115, 116, 117, 118, 119, 120, 121, 122, 123, 124, 125, 126, 127, 128, 129] (by decide +kernel) (by decide +kernel)
set_option maxRecDepth 20000 in
theorem gX12_choices_X12_isChoice : GoodIn wsX12_choices (wsV RX12 209 RX12 yX12_isChoice wsX12_isChoice) := goodIn_app (goodIn_of _ (by decide +kernel)) ggX12_choices_X12_isChoice
set_option maxRecDepth 20000 in
theorem ggX12_choices_X12_costOf_ : GoodIn wsX12_choices wsX12_costOf_ := goodIn_r _ [78, 79, 80, 81, 16, 82, 83, 84, 85, 86, 87, 88, 89, 90, 91, 92, 93, 94, 95, 96, 97, 98, 99, 100, 101, 102, 103, 104, 105, 106, 107, 108, 109, 110, 111, 112, 113, 114, 115, 116, 117, 118, 119, 120, 121, 122, 123, 124, 125, 126, 127, 128, 129] (by decide +kernel) (by decide +kernel)
set_option maxRecDepth 20000 in
theorem gX12_choices_X12_costOf_ : GoodIn wsX12_choices (wsV RX12 189 RX12 yX12_costOf_ wsX12_costOf_) := goodIn_app (goodIn_of _ (by decide +kernel)) ggX12_choices_X12_costOf_
theorem dX12_choices_0 : decode cX12_choices 0 = .ok (.aload_n 0, 1) := by decide +kernel
theorem dX12_choices_1 : decode cX12_choices 1 = .ok (.iconst 0, 1) := by decide +kernel
theorem dX12_choices_2 : decode cX12_choices 2 = .ok (.putfield 85, 3) := by decide +kernel
theorem dX12_choices_5 : decode cX12_choices 5 = .ok (.aload_n 0, 1) := by decide +kernel
theorem dX12_choices_6 : decode cX12_choices 6 = .ok (.iconst (-1), 1) := by decide +kernel
theorem dX12_choices_7 : decode cX12_choices 7 = .ok (.putfield 55, 3) := by decide +kernel
theorem dX12_choices_10 : decode cX12_choices 10 = .ok (.aload_n 0, 1) := by decide +kernel
theorem dX12_choices_11 : decode cX12_choices 11 = .ok (.invokevirtual 164, 3) := by decide +kernel
theorem dX12_choices_14 : decode cX12_choices 14 = .ok (.istore_n 3, 1) := by decide +kernel
theorem dX12_choices_15 : decode cX12_choices 15 = .ok (.iload_n 3, 1) := by decide +kernel
theorem dX12_choices_16 : decode cX12_choices 16 = .ok (.iconst 1, 1) := by decide +kernel
theorem dX12_choices_17 : decode cX12_choices 17 = .ok (.if_icmp .lt 33, 3) := by decide +kernel
theorem dX12_choices_20 : decode cX12_choices 20 = .ok (.iload_n 3, 1) := by decide +kernel
theorem dX12_choices_21 : decode cX12_choices 21 = .ok (.iconst 2, 1) := by decide +kernel
theorem dX12_choices_22 : decode cX12_choices 22 = .ok (.if_icmp .gt 28, 3) := by decide +kernel
theorem dX12_choices_25 : decode cX12_choices 25 = .ok (.iload_n 1, 1) := by decide +kernel
theorem dX12_choices_26 : decode cX12_choices 26 = .ok (.invokestatic 158, 3) := by decide +kernel
theorem dX12_choices_29 : decode cX12_choices 29 = .ok (.ifCond .eq 21, 3) := by decide +kernel
theorem dX12_choices_32 : decode cX12_choices 32 = .ok (.iload_n 2, 1) := by decide +kernel
theorem dX12_choices_33 : decode cX12_choices 33 = .ok (.invokestatic 158, 3) := by decide +kernel
theorem dX12_choices_36 : decode cX12_choices 36 = .ok (.ifCond .eq 14, 3) := by decide +kernel
theorem dX12_choices_39 : decode cX12_choices 39 = .ok (.aload_n 0, 1) := by decide +kernel
theorem dX12_choices_40 : decode cX12_choices 40 = .ok (.getfield 13, 3) := by decide +kernel
theorem dX12_choices_43 : decode cX12_choices 43 = .ok (.iconst 0, 1) := by decide +kernel
theorem dX12_choices_44 : decode cX12_choices 44 = .ok (.iaload, 1) := by decide +kernel
theorem dX12_choices_45 : decode cX12_choices 45 = .ok (.bipush 100, 2) := by decide +kernel
theorem dX12_choices_47 : decode cX12_choices 47 = .ok (.if_icmp .le 5, 3) := by decide +kernel
theorem dX12_choices_50 : decode cX12_choices 50 = .ok (.iconst (-1), 1) := by decide +kernel
theorem dX12_choices_51 : decode cX12_choices 51 = .ok (.ireturn, 1) := by decide +kernel
theorem dX12_choices_52 : decode cX12_choices 52 = .ok (.aload_n 0, 1) := by decide +kernel
theorem dX12_choices_53 : decode cX12_choices 53 = .ok (.iload_n 2, 1) := by decide +kernel
theorem dX12_choices_54 : decode cX12_choices 54 = .ok (.iconst 0, 1) := by decide +kernel
theorem dX12_choices_55 : decode cX12_choices 55 = .ok (.iconst 0, 1) := by decide +kernel
theorem dX12_choices_56 : decode cX12_choices 56 = .ok (.invokevirtual 203, 3) := by decide +kernel
theorem dX12_choices_59 : decode cX12_choices 59 = .ok (.ifCond .ne 13, 3) := by decide +kernel
theorem dX12_choices_62 : decode cX12_choices 62 = .ok (.aload_n 0, 1) := by decide +kernel
theorem dX12_choices_63 : decode cX12_choices 63 = .ok (.aload_n 0, 1) := by decide +kernel
theorem dX12_choices_64 : decode cX12_choices 64 = .ok (.getfield 102, 3) := by decide +kernel
theorem dX12_choices_67 : decode cX12_choices 67 = .ok (.putfield 55, 3) := by decide +kernel
theorem dX12_choices_70 : decode cX12_choices 70 = .ok (.iconst (-1), 1) := by decide +kernel
theorem dX12_choices_71 : decode cX12_choices 71 = .ok (.ireturn, 1) := by decide +kernel
theorem dX12_choices_72 : decode cX12_choices 72 = .ok (.iconst 0, 1) := by decide +kernel
theorem dX12_choices_73 : decode cX12_choices 73 = .ok (.istore 4, 2) := by decide +kernel
theorem dX12_choices_75 : decode cX12_choices 75 = .ok (.iconst 0, 1) := by decide +kernel
theorem dX12_choices_76 : decode cX12_choices 76 = .ok (.istore 5, 2) := by decide +kernel
theorem dX12_choices_78 : decode cX12_choices 78 = .ok (.iload 5, 2) := by decide +kernel
theorem dX12_choices_80 : decode cX12_choices 80 = .ok (.sipush 256, 3) := by decide +kernel
theorem dX12_choices_83 : decode cX12_choices 83 = .ok (.if_icmp .ge 285, 3) := by decide +kernel
theorem dX12_choices_86 : decode cX12_choices 86 = .ok (.iconst 0, 1) := by decide +kernel
theorem dX12_choices_87 : decode cX12_choices 87 = .ok (.istore 6, 2) := by decide +kernel
theorem dX12_choices_89 : decode cX12_choices 89 = .ok (.iload 6, 2) := by decide +kernel
theorem dX12_choices_91 : decode cX12_choices 91 = .ok (.iload_n 3, 1) := by decide +kernel
theorem dX12_choices_92 : decode cX12_choices 92 = .ok (.iconst 1, 1) := by decide +kernel
theorem dX12_choices_93 : decode cX12_choices 93 = .ok (.if_icmp .ne 7, 3) := by decide +kernel
theorem dX12_choices_96 : decode cX12_choices 96 = .ok (.iconst 1, 1) := by decide +kernel
theorem dX12_choices_97 : decode cX12_choices 97 = .ok (.goto 6, 3) := by decide +kernel
theorem dX12_choices_100 : decode cX12_choices 100 = .ok (.sipush 256, 3) := by decide +kernel
theorem dX12_choices_103 : decode cX12_choices 103 = .ok (.if_icmp .ge 259, 3) := by decide +kernel
theorem dX12_choices_106 : decode cX12_choices 106 = .ok (.aload_n 0, 1) := by decide +kernel
theorem dX12_choices_107 : decode cX12_choices 107 = .ok (.iload_n 2, 1) := by decide +kernel
theorem dX12_choices_108 : decode cX12_choices 108 = .ok (.iload 5, 2) := by decide +kernel
theorem dX12_choices_110 : decode cX12_choices 110 = .ok (.invokevirtual 206, 3) := by decide +kernel
theorem dX12_choices_113 : decode cX12_choices 113 = .ok (.ifCond .ne 243, 3) := by decide +kernel
theorem dX12_choices_116 : decode cX12_choices 116 = .ok (.iload_n 3, 1) := by decide +kernel
theorem dX12_choices_117 : decode cX12_choices 117 = .ok (.iconst 2, 1) := by decide +kernel
theorem dX12_choices_118 : decode cX12_choices 118 = .ok (.if_icmp .ne 13, 3) := by decide +kernel
theorem dX12_choices_121 : decode cX12_choices 121 = .ok (.aload_n 0, 1) := by decide +kernel
theorem dX12_choices_122 : decode cX12_choices 122 = .ok (.iload_n 2, 1) := by decide +kernel
theorem dX12_choices_123 : decode cX12_choices 123 = .ok (.iload 6, 2) := by decide +kernel
theorem dX12_choices_125 : decode cX12_choices 125 = .ok (.invokevirtual 206, 3) := by decide +kernel
theorem dX12_choices_128 : decode cX12_choices 128 = .ok (.ifCond .ne 228, 3) := by decide +kernel
theorem dX12_choices_131 : decode cX12_choices 131 = .ok (.aload_n 0, 1) := by decide +kernel
theorem dX12_choices_132 : decode cX12_choices 132 = .ok (.iload_n 1, 1) := by decide +kernel
theorem dX12_choices_133 : decode cX12_choices 133 = .ok (.iload_n 2, 1) := by decide +kernel
theorem dX12_choices_134 : decode cX12_choices 134 = .ok (.iload 5, 2) := by decide +kernel
theorem dX12_choices_136 : decode cX12_choices 136 = .ok (.iload 6, 2) := by decide +kernel
theorem dX12_choices_138 : decode cX12_choices 138 = .ok (.invokevirtual 209, 3) := by decide +kernel
theorem dX12_choices_141 : decode cX12_choices 141 = .ok (.ifCond .ne 6, 3) := by decide +kernel
theorem dX12_choices_144 : decode cX12_choices 144 = .ok (.goto 212, 3) := by decide +kernel
theorem dX12_choices_147 : decode cX12_choices 147 = .ok (.aload_n 0, 1) := by decide +kernel
theorem dX12_choices_148 : decode cX12_choices 148 = .ok (.aload_n 0, 1) := by decide +kernel
theorem dX12_choices_149 : decode cX12_choices 149 = .ok (.getfield 64, 3) := by decide +kernel
theorem dX12_choices_152 : decode cX12_choices 152 = .ok (.iconst 0, 1) := by decide +kernel
theorem dX12_choices_153 : decode cX12_choices 153 = .ok (.aload_n 0, 1) := by decide +kernel
theorem dX12_choices_154 : decode cX12_choices 154 = .ok (.getfield 135, 3) := by decide +kernel
theorem dX12_choices_157 : decode cX12_choices 157 = .ok (.invokevirtual 189, 3) := by decide +kernel
theorem dX12_choices_160 : decode cX12_choices 160 = .ok (.istore 7, 2) := by decide +kernel
theorem dX12_choices_162 : decode cX12_choices 162 = .ok (.iload 4, 2) := by decide +kernel
theorem dX12_choices_164 : decode cX12_choices 164 = .ok (.sipush 200, 3) := by decide +kernel
theorem dX12_choices_167 : decode cX12_choices 167 = .ok (.if_icmp .ge 8, 3) := by decide +kernel
theorem dX12_choices_170 : decode cX12_choices 170 = .ok (.iload 4, 2) := by decide +kernel
theorem dX12_choices_172 : decode cX12_choices 172 = .ok (.goto 6, 3) := by decide +kernel
theorem dX12_choices_175 : decode cX12_choices 175 = .ok (.sipush 200, 3) := by decide +kernel
theorem dX12_choices_178 : decode cX12_choices 178 = .ok (.istore 8, 2) := by decide +kernel
theorem dX12_choices_180 : decode cX12_choices 180 = .ok (.iload 8, 2) := by decide +kernel
theorem dX12_choices_182 : decode cX12_choices 182 = .ok (.ifCond .le 25, 3) := by decide +kernel
theorem dX12_choices_185 : decode cX12_choices 185 = .ok (.aload_n 0, 1) := by decide +kernel
theorem dX12_choices_186 : decode cX12_choices 186 = .ok (.getfield 48, 3) := by decide +kernel
theorem dX12_choices_189 : decode cX12_choices 189 = .ok (.iconst 4, 1) := by decide +kernel
theorem dX12_choices_190 : decode cX12_choices 190 = .ok (.iload 8, 2) := by decide +kernel
theorem dX12_choices_192 : decode cX12_choices 192 = .ok (.imul, 1) := by decide +kernel
theorem dX12_choices_193 : decode cX12_choices 193 = .ok (.iconst 2, 1) := by decide +kernel
theorem dX12_choices_194 : decode cX12_choices 194 = .ok (.isub, 1) := by decide +kernel
theorem dX12_choices_195 : decode cX12_choices 195 = .ok (.iaload, 1) := by decide +kernel
theorem dX12_choices_196 : decode cX12_choices 196 = .ok (.iload 7, 2) := by decide +kernel
theorem dX12_choices_198 : decode cX12_choices 198 = .ok (.if_icmp .le 9, 3) := by decide +kernel
theorem dX12_choices_201 : decode cX12_choices 201 = .ok (.iinc 8 (-1), 3) := by decide +kernel
theorem dX12_choices_204 : decode cX12_choices 204 = .ok (.goto (-24), 3) := by decide +kernel
theorem dX12_choices_207 : decode cX12_choices 207 = .ok (.iinc 4 1, 3) := by decide +kernel
theorem dX12_choices_210 : decode cX12_choices 210 = .ok (.iload 8, 2) := by decide +kernel
theorem dX12_choices_212 : decode cX12_choices 212 = .ok (.sipush 200, 3) := by decide +kernel
theorem dX12_choices_215 : decode cX12_choices 215 = .ok (.if_icmp .ne 6, 3) := by decide +kernel
theorem dX12_choices_218 : decode cX12_choices 218 = .ok (.goto 138, 3) := by decide +kernel
theorem dX12_choices_221 : decode cX12_choices 221 = .ok (.iload 4, 2) := by decide +kernel
theorem dX12_choices_223 : decode cX12_choices 223 = .ok (.sipush 200, 3) := by decide +kernel
theorem dX12_choices_226 : decode cX12_choices 226 = .ok (.if_icmp .ge 8, 3) := by decide +kernel
theorem dX12_choices_229 : decode cX12_choices 229 = .ok (.iload 4, 2) := by decide +kernel
theorem dX12_choices_231 : decode cX12_choices 231 = .ok (.goto 6, 3) := by decide +kernel
theorem dX12_choices_234 : decode cX12_choices 234 = .ok (.sipush 200, 3) := by decide +kernel
theorem dX12_choices_237 : decode cX12_choices 237 = .ok (.iconst 1, 1) := by decide +kernel
theorem dX12_choices_238 : decode cX12_choices 238 = .ok (.isub, 1) := by decide +kernel
theorem dX12_choices_239 : decode cX12_choices 239 = .ok (.istore 9, 2) := by decide +kernel
theorem dX12_choices_241 : decode cX12_choices 241 = .ok (.iload 9, 2) := by decide +kernel
theorem dX12_choices_243 : decode cX12_choices 243 = .ok (.iload 8, 2) := by decide +kernel
theorem dX12_choices_245 : decode cX12_choices 245 = .ok (.if_icmp .le 50, 3) := by decide +kernel
theorem dX12_choices_248 : decode cX12_choices 248 = .ok (.iconst 0, 1) := by decide +kernel
theorem dX12_choices_249 : decode cX12_choices 249 = .ok (.istore 10, 2) := by decide +kernel
theorem dX12_choices_251 : decode cX12_choices 251 = .ok (.iload 10, 2) := by decide +kernel
theorem dX12_choices_253 : decode cX12_choices 253 = .ok (.iconst 4, 1) := by decide +kernel
theorem dX12_choices_254 : decode cX12_choices 254 = .ok (.if_icmp .ge 35, 3) := by decide +kernel
theorem dX12_choices_257 : decode cX12_choices 257 = .ok (.aload_n 0, 1) := by decide +kernel
theorem dX12_choices_258 : decode cX12_choices 258 = .ok (.getfield 48, 3) := by decide +kernel
theorem dX12_choices_261 : decode cX12_choices 261 = .ok (.iconst 4, 1) := by decide +kernel
theorem dX12_choices_262 : decode cX12_choices 262 = .ok (.iload 9, 2) := by decide +kernel
theorem dX12_choices_264 : decode cX12_choices 264 = .ok (.imul, 1) := by decide +kernel
theorem dX12_choices_265 : decode cX12_choices 265 = .ok (.iload 10, 2) := by decide +kernel
theorem dX12_choices_267 : decode cX12_choices 267 = .ok (.iadd, 1) := by decide +kernel
theorem dX12_choices_268 : decode cX12_choices 268 = .ok (.aload_n 0, 1) := by decide +kernel
theorem dX12_choices_269 : decode cX12_choices 269 = .ok (.getfield 48, 3) := by decide +kernel
theorem dX12_choices_272 : decode cX12_choices 272 = .ok (.iconst 4, 1) := by decide +kernel
theorem dX12_choices_273 : decode cX12_choices 273 = .ok (.iload 9, 2) := by decide +kernel
theorem dX12_choices_275 : decode cX12_choices 275 = .ok (.imul, 1) := by decide +kernel
theorem dX12_choices_276 : decode cX12_choices 276 = .ok (.iconst 4, 1) := by decide +kernel
theorem dX12_choices_277 : decode cX12_choices 277 = .ok (.isub, 1) := by decide +kernel
theorem dX12_choices_278 : decode cX12_choices 278 = .ok (.iload 10, 2) := by decide +kernel
theorem dX12_choices_280 : decode cX12_choices 280 = .ok (.iadd, 1) := by decide +kernel
theorem dX12_choices_281 : decode cX12_choices 281 = .ok (.iaload, 1) := by decide +kernel
theorem dX12_choices_282 : decode cX12_choices 282 = .ok (.iastore, 1) := by decide +kernel
theorem dX12_choices_283 : decode cX12_choices 283 = .ok (.iinc 10 1, 3) := by decide +kernel
theorem dX12_choices_286 : decode cX12_choices 286 = .ok (.goto (-35), 3) := by decide +kernel
theorem dX12_choices_289 : decode cX12_choices 289 = .ok (.iinc 9 (-1), 3) := by decide +kernel
theorem dX12_choices_292 : decode cX12_choices 292 = .ok (.goto (-51), 3) := by decide +kernel
theorem dX12_choices_295 : decode cX12_choices 295 = .ok (.aload_n 0, 1) := by decide +kernel
theorem dX12_choices_296 : decode cX12_choices 296 = .ok (.getfield 48, 3) := by decide +kernel
theorem dX12_choices_299 : decode cX12_choices 299 = .ok (.iconst 4, 1) := by decide +kernel
theorem dX12_choices_300 : decode cX12_choices 300 = .ok (.iload 8, 2) := by decide +kernel
theorem dX12_choices_302 : decode cX12_choices 302 = .ok (.imul, 1) := by decide +kernel
theorem dX12_choices_303 : decode cX12_choices 303 = .ok (.iload 5, 2) := by decide +kernel
theorem dX12_choices_305 : decode cX12_choices 305 = .ok (.iastore, 1) := by decide +kernel
theorem dX12_choices_306 : decode cX12_choices 306 = .ok (.aload_n 0, 1) := by decide +kernel
theorem dX12_choices_307 : decode cX12_choices 307 = .ok (.getfield 48, 3) := by decide +kernel
theorem dX12_choices_310 : decode cX12_choices 310 = .ok (.iconst 4, 1) := by decide +kernel
theorem dX12_choices_311 : decode cX12_choices 311 = .ok (.iload 8, 2) := by decide +kernel
theorem dX12_choices_313 : decode cX12_choices 313 = .ok (.imul, 1) := by decide +kernel
theorem dX12_choices_314 : decode cX12_choices 314 = .ok (.iconst 1, 1) := by decide +kernel
theorem dX12_choices_315 : decode cX12_choices 315 = .ok (.iadd, 1) := by decide +kernel
theorem dX12_choices_316 : decode cX12_choices 316 = .ok (.iload_n 3, 1) := by decide +kernel
theorem dX12_choices_317 : decode cX12_choices 317 = .ok (.iconst 1, 1) := by decide +kernel
theorem dX12_choices_318 : decode cX12_choices 318 = .ok (.if_icmp .ne 7, 3) := by decide +kernel
theorem dX12_choices_321 : decode cX12_choices 321 = .ok (.iconst (-1), 1) := by decide +kernel
theorem dX12_choices_322 : decode cX12_choices 322 = .ok (.goto 5, 3) := by decide +kernel
theorem dX12_choices_325 : decode cX12_choices 325 = .ok (.iload 6, 2) := by decide +kernel
theorem dX12_choices_327 : decode cX12_choices 327 = .ok (.iastore, 1) := by decide +kernel
theorem dX12_choices_328 : decode cX12_choices 328 = .ok (.aload_n 0, 1) := by decide +kernel
theorem dX12_choices_329 : decode cX12_choices 329 = .ok (.getfield 48, 3) := by decide +kernel
theorem dX12_choices_332 : decode cX12_choices 332 = .ok (.iconst 4, 1) := by decide +kernel
theorem dX12_choices_333 : decode cX12_choices 333 = .ok (.iload 8, 2) := by decide +kernel
theorem dX12_choices_335 : decode cX12_choices 335 = .ok (.imul, 1) := by decide +kernel
theorem dX12_choices_336 : decode cX12_choices 336 = .ok (.iconst 2, 1) := by decide +kernel
theorem dX12_choices_337 : decode cX12_choices 337 = .ok (.iadd, 1) := by decide +kernel
theorem dX12_choices_338 : decode cX12_choices 338 = .ok (.iload 7, 2) := by decide +kernel
theorem dX12_choices_340 : decode cX12_choices 340 = .ok (.iastore, 1) := by decide +kernel
theorem dX12_choices_341 : decode cX12_choices 341 = .ok (.aload_n 0, 1) := by decide +kernel
theorem dX12_choices_342 : decode cX12_choices 342 = .ok (.getfield 48, 3) := by decide +kernel
theorem dX12_choices_345 : decode cX12_choices 345 = .ok (.iconst 4, 1) := by decide +kernel
theorem dX12_choices_346 : decode cX12_choices 346 = .ok (.iload 8, 2) := by decide +kernel
theorem dX12_choices_348 : decode cX12_choices 348 = .ok (.imul, 1) := by decide +kernel
theorem dX12_choices_349 : decode cX12_choices 349 = .ok (.iconst 3, 1) := by decide +kernel
theorem dX12_choices_350 : decode cX12_choices 350 = .ok (.iadd, 1) := by decide +kernel
theorem dX12_choices_351 : decode cX12_choices 351 = .ok (.aload_n 0, 1) := by decide +kernel
theorem dX12_choices_352 : decode cX12_choices 352 = .ok (.getfield 135, 3) := by decide +kernel
theorem dX12_choices_355 : decode cX12_choices 355 = .ok (.iastore, 1) := by decide +kernel
theorem dX12_choices_356 : decode cX12_choices 356 = .ok (.iinc 6 1, 3) := by decide +kernel
theorem dX12_choices_359 : decode cX12_choices 359 = .ok (.goto (-270), 3) := by decide +kernel
theorem dX12_choices_362 : decode cX12_choices 362 = .ok (.iinc 5 1, 3) := by decide +kernel
theorem dX12_choices_365 : decode cX12_choices 365 = .ok (.goto (-287), 3) := by decide +kernel
theorem dX12_choices_368 : decode cX12_choices 368 = .ok (.aload_n 0, 1) := by decide +kernel
theorem dX12_choices_369 : decode cX12_choices 369 = .ok (.iload 4, 2) := by decide +kernel
theorem dX12_choices_371 : decode cX12_choices 371 = .ok (.putfield 213, 3) := by decide +kernel
theorem dX12_choices_374 : decode cX12_choices 374 = .ok (.aload_n 0, 1) := by decide +kernel
theorem dX12_choices_375 : decode cX12_choices 375 = .ok (.iload_n 1, 1) := by decide +kernel
theorem dX12_choices_376 : decode cX12_choices 376 = .ok (.putfield 216, 3) := by decide +kernel
theorem dX12_choices_379 : decode cX12_choices 379 = .ok (.aload_n 0, 1) := by decide +kernel
theorem dX12_choices_380 : decode cX12_choices 380 = .ok (.iload_n 2, 1) := by decide +kernel
theorem dX12_choices_381 : decode cX12_choices 381 = .ok (.putfield 219, 3) := by decide +kernel
theorem dX12_choices_384 : decode cX12_choices 384 = .ok (.aload_n 0, 1) := by decide +kernel
theorem dX12_choices_385 : decode cX12_choices 385 = .ok (.aload_n 0, 1) := by decide +kernel
theorem dX12_choices_386 : decode cX12_choices 386 = .ok (.getfield 148, 3) := by decide +kernel
theorem dX12_choices_389 : decode cX12_choices 389 = .ok (.putfield 51, 3) := by decide +kernel
theorem dX12_choices_392 : decode cX12_choices 392 = .ok (.iload 4, 2) := by decide +kernel
theorem dX12_choices_394 : decode cX12_choices 394 = .ok (.ireturn, 1) := by decide +kernel
theorem dX12_isToldChoice_0 : decode cX12_isToldChoice 0 = .ok (.iload_n 1, 1) := by decide +kernel
theorem dX12_isToldChoice_1 : decode cX12_isToldChoice 1 = .ok (.ifCond .lt 22, 3) := by decide +kernel
theorem dX12_isToldChoice_4 : decode cX12_isToldChoice 4 = .ok (.iload_n 1, 1) := by decide +kernel
theorem dX12_isToldChoice_5 : decode cX12_isToldChoice 5 = .ok (.aload_n 0, 1) := by decide +kernel
theorem dX12_isToldChoice_6 : decode cX12_isToldChoice 6 = .ok (.getfield 213, 3) := by decide +kernel
theorem dX12_isToldChoice_9 : decode cX12_isToldChoice 9 = .ok (.if_icmp .ge 14, 3) := by decide +kernel
theorem dX12_isToldChoice_12 : decode cX12_isToldChoice 12 = .ok (.iload_n 1, 1) := by decide +kernel
theorem dX12_isToldChoice_13 : decode cX12_isToldChoice 13 = .ok (.sipush 200, 3) := by decide +kernel
theorem dX12_isToldChoice_16 : decode cX12_isToldChoice 16 = .ok (.if_icmp .ge 7, 3) := by decide +kernel
theorem dX12_isToldChoice_19 : decode cX12_isToldChoice 19 = .ok (.iconst 1, 1) := by decide +kernel
theorem dX12_isToldChoice_20 : decode cX12_isToldChoice 20 = .ok (.goto 4, 3) := by decide +kernel
theorem dX12_isToldChoice_23 : decode cX12_isToldChoice 23 = .ok (.iconst 0, 1) := by decide +kernel
theorem dX12_isToldChoice_24 : decode cX12_isToldChoice 24 = .ok (.ireturn, 1) := by decide +kernel
set_option maxRecDepth 20000 in
theorem ggX12_choice_X12_isToldChoice : GoodIn wsX12_choice wsX12_isToldChoice := goodIn_r _ [7, 8, 9, 10, 11, 12, 13, 14, 15, 16, 17, 18, 19, 20, 21, 22, 23, 24, 25, 26, 27, 28, 29, 30, 31, 32, 33, 34, 35, 36, 37, 38, 39, 40, 41, 42, 43, 44, 45, 46, 47, 48] (by decide +kernel) (by decide +kernel)
set_option maxRecDepth 20000 in
theorem gX12_choice_X12_isToldChoice : GoodIn wsX12_choice (wsV RX12 222 RX12 yX12_isToldChoice wsX12_isToldChoice) := goodIn_app (goodIn_of _ (by decide +kernel)) ggX12_choice_X12_isToldChoice
theorem dX12_choice_0 : decode cX12_choice 0 = .ok (.aload_n 0, 1) := by decide +kernel
theorem dX12_choice_1 : decode cX12_choice 1 = .ok (.iconst 0, 1) := by decide +kernel
theorem dX12_choice_2 : decode cX12_choice 2 = .ok (.putfield 85, 3) := by decide +kernel
theorem dX12_choice_5 : decode cX12_choice 5 = .ok (.aload_n 0, 1) := by decide +kernel
theorem dX12_choice_6 : decode cX12_choice 6 = .ok (.iload_n 1, 1) := by decide +kernel
theorem dX12_choice_7 : decode cX12_choice 7 = .ok (.invokevirtual 222, 3) := by decide +kernel
theorem dX12_choice_10 : decode cX12_choice 10 = .ok (.ifCond .eq 25, 3) := by decide +kernel
theorem dX12_choice_13 : decode cX12_choice 13 = .ok (.iload_n 2, 1) := by decide +kernel
theorem dX12_choice_14 : decode cX12_choice 14 = .ok (.ifCond .lt 21, 3) := by decide +kernel
theorem dX12_choice_17 : decode cX12_choice 17 = .ok (.iload_n 2, 1) := by decide +kernel
theorem dX12_choice_18 : decode cX12_choice 18 = .ok (.iconst 4, 1) := by decide +kernel
theorem dX12_choice_19 : decode cX12_choice 19 = .ok (.if_icmp .ge 16, 3) := by decide +kernel
theorem dX12_choice_22 : decode cX12_choice 22 = .ok (.aload_n 0, 1) := by decide +kernel
theorem dX12_choice_23 : decode cX12_choice 23 = .ok (.getfield 48, 3) := by decide +kernel
theorem dX12_choice_26 : decode cX12_choice 26 = .ok (.iconst 4, 1) := by decide +kernel
theorem dX12_choice_27 : decode cX12_choice 27 = .ok (.iload_n 1, 1) := by decide +kernel
theorem dX12_choice_28 : decode cX12_choice 28 = .ok (.imul, 1) := by decide +kernel
theorem dX12_choice_29 : decode cX12_choice 29 = .ok (.iload_n 2, 1) := by decide +kernel
theorem dX12_choice_30 : decode cX12_choice 30 = .ok (.iadd, 1) := by decide +kernel
theorem dX12_choice_31 : decode cX12_choice 31 = .ok (.iaload, 1) := by decide +kernel
theorem dX12_choice_32 : decode cX12_choice 32 = .ok (.goto 4, 3) := by decide +kernel
theorem dX12_choice_35 : decode cX12_choice 35 = .ok (.iconst (-1), 1) := by decide +kernel
theorem dX12_choice_36 : decode cX12_choice 36 = .ok (.ireturn, 1) := by decide +kernel
set_option maxRecDepth 20000 in
theorem ggX12_chosen_X12_isToldChoice : GoodIn wsX12_chosen wsX12_isToldChoice := goodIn_r _ [13, 14, 73, 74, 75, 76, 77, 78, 79, 80, 81, 82, 83, 84, 85, 86, 87, 88, 89, 90, 91, 92, 93, 94, 95, 96, 97, 98, 99, 100, 101, 102, 103, 104, 105, 106, 107, 108, 109, 110, 111, 112] (by decide +kernel) (by decide +kernel)
set_option maxRecDepth 20000 in
theorem gX12_chosen_X12_isToldChoice : GoodIn wsX12_chosen (wsV RX12 222 RX12 yX12_isToldChoice wsX12_isToldChoice) := goodIn_app (goodIn_of _ (by decide +kernel)) ggX12_chosen_X12_isToldChoice
set_option maxRecDepth 20000 in
theorem ggX12_chosen_X12_isChoice : GoodIn wsX12_chosen wsX12_isChoice := goodIn_r _ [18, 19, 8, 7, 20, 21, 22, 23, 24, 25, 26, 12, 27, 28, 29, 30, 31, 32, 33, 34, 35, 36, 37, 38, 39, 40, 41, 42, 43, 44, 45, 46, 47, 48, 49, 50, 51, 52, 53, 54, 55, 56, 57, 58, 59, 60, 61, 62, 63, 64, 65, 66, 73, 74, 75, 76, 77, 78, 79, 80, 81, 82, 83, 84, 85, 86, 87, 88, 89, 90, 91, 92, 93, 94, 95, 96, 97, 98, 99, 100, 101, 102, 103, 104, 105, 106, 107, 108, 109, 110, 111, 112] (by decide +kernel) (by decide +kernel)
set_option maxRecDepth 20000 in
theorem gX12_chosen_X12_isChoice : GoodIn wsX12_chosen (wsV RX12 209 RX12 yX12_isChoice wsX12_isChoice) := goodIn_app (goodIn_of _ (by decide +kernel)) ggX12_chosen_X12_isChoice
set_option maxRecDepth 20000 in
theorem ggX12_chosen_X12_become : GoodIn wsX12_chosen wsX12_become := goodIn_r _ [70, 71, 72, 22, 23, 3, 73, 74, 75, 76, 77, 78, 79, 80, 81, 82, 83, 84, 85, 86, 87, 88, 89, 90, 91, 92, 93, 94, 95, 96, 97, 98, 99, 100, 101, 102, 103, 104, 105, 106, 107, 108, 109, 110, 111, 112] (by decide +kernel) (by decide +kernel)
set_option maxRecDepth 20000 in
theorem gX12_chosen_X12_become : GoodIn wsX12_chosen (wsV RX12 154 RX12 yX12_become wsX12_become) := goodIn_app (goodIn_of _ (by decide +kernel)) ggX12_chosen_X12_become
theorem dX12_chosen_0 : decode cX12_chosen 0 = .ok (.aload_n 0, 1) := by decide +kernel
theorem dX12_chosen_1 : decode cX12_chosen 1 = .ok (.iconst 0, 1) := by decide +kernel
theorem dX12_chosen_2 : decode cX12_chosen 2 = .ok (.putfield 85, 3) := by decide +kernel
theorem dX12_chosen_5 : decode cX12_chosen 5 = .ok (.aload_n 0, 1) := by decide +kernel
theorem dX12_chosen_6 : decode cX12_chosen 6 = .ok (.iload_n 1, 1) := by decide +kernel
theorem dX12_chosen_7 : decode cX12_chosen 7 = .ok (.invokevirtual 222, 3) := by decide +kernel
theorem dX12_chosen_10 : decode cX12_chosen 10 = .ok (.ifCond .eq 14, 3) := by decide +kernel
theorem dX12_chosen_13 : decode cX12_chosen 13 = .ok (.aload_n 0, 1) := by decide +kernel
theorem dX12_chosen_14 : decode cX12_chosen 14 = .ok (.getfield 51, 3) := by decide +kernel
theorem dX12_chosen_17 : decode cX12_chosen 17 = .ok (.aload_n 0, 1) := by decide +kernel
theorem dX12_chosen_18 : decode cX12_chosen 18 = .ok (.getfield 148, 3) := by decide +kernel
theorem dX12_chosen_21 : decode cX12_chosen 21 = .ok (.if_icmp .eq 5, 3) := by decide +kernel
theorem dX12_chosen_24 : decode cX12_chosen 24 = .ok (.iconst 0, 1) := by decide +kernel
theorem dX12_chosen_25 : decode cX12_chosen 25 = .ok (.ireturn, 1) := by decide +kernel
theorem dX12_chosen_26 : decode cX12_chosen 26 = .ok (.aload_n 0, 1) := by decide +kernel
theorem dX12_chosen_27 : decode cX12_chosen 27 = .ok (.aload_n 0, 1) := by decide +kernel
theorem dX12_chosen_28 : decode cX12_chosen 28 = .ok (.getfield 216, 3) := by decide +kernel
theorem dX12_chosen_31 : decode cX12_chosen 31 = .ok (.aload_n 0, 1) := by decide +kernel
theorem dX12_chosen_32 : decode cX12_chosen 32 = .ok (.getfield 219, 3) := by decide +kernel
theorem dX12_chosen_35 : decode cX12_chosen 35 = .ok (.aload_n 0, 1) := by decide +kernel
theorem dX12_chosen_36 : decode cX12_chosen 36 = .ok (.getfield 48, 3) := by decide +kernel
theorem dX12_chosen_39 : decode cX12_chosen 39 = .ok (.iconst 4, 1) := by decide +kernel
theorem dX12_chosen_40 : decode cX12_chosen 40 = .ok (.iload_n 1, 1) := by decide +kernel
theorem dX12_chosen_41 : decode cX12_chosen 41 = .ok (.imul, 1) := by decide +kernel
theorem dX12_chosen_42 : decode cX12_chosen 42 = .ok (.iaload, 1) := by decide +kernel
theorem dX12_chosen_43 : decode cX12_chosen 43 = .ok (.aload_n 0, 1) := by decide +kernel
theorem dX12_chosen_44 : decode cX12_chosen 44 = .ok (.getfield 48, 3) := by decide +kernel
theorem dX12_chosen_47 : decode cX12_chosen 47 = .ok (.iconst 4, 1) := by decide +kernel
theorem dX12_chosen_48 : decode cX12_chosen 48 = .ok (.iload_n 1, 1) := by decide +kernel
theorem dX12_chosen_49 : decode cX12_chosen 49 = .ok (.imul, 1) := by decide +kernel
theorem dX12_chosen_50 : decode cX12_chosen 50 = .ok (.iconst 1, 1) := by decide +kernel
theorem dX12_chosen_51 : decode cX12_chosen 51 = .ok (.iadd, 1) := by decide +kernel
theorem dX12_chosen_52 : decode cX12_chosen 52 = .ok (.iaload, 1) := by decide +kernel
theorem dX12_chosen_53 : decode cX12_chosen 53 = .ok (.invokevirtual 209, 3) := by decide +kernel
theorem dX12_chosen_56 : decode cX12_chosen 56 = .ok (.pop, 1) := by decide +kernel
theorem dX12_chosen_57 : decode cX12_chosen 57 = .ok (.aload_n 0, 1) := by decide +kernel
theorem dX12_chosen_58 : decode cX12_chosen 58 = .ok (.aload_n 0, 1) := by decide +kernel
theorem dX12_chosen_59 : decode cX12_chosen 59 = .ok (.getfield 64, 3) := by decide +kernel
theorem dX12_chosen_62 : decode cX12_chosen 62 = .ok (.aload_n 0, 1) := by decide +kernel
theorem dX12_chosen_63 : decode cX12_chosen 63 = .ok (.getfield 135, 3) := by decide +kernel
theorem dX12_chosen_66 : decode cX12_chosen 66 = .ok (.invokevirtual 154, 3) := by decide +kernel
theorem dX12_chosen_69 : decode cX12_chosen 69 = .ok (.iconst 1, 1) := by decide +kernel
theorem dX12_chosen_70 : decode cX12_chosen 70 = .ok (.ireturn, 1) := by decide +kernel
