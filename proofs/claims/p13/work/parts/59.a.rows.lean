theorem dX12_span_0 : decode cX12_span 0 = .ok (.aload_n 0, 1) := by decide +kernel
theorem dX12_span_1 : decode cX12_span 1 = .ok (.iconst 0, 1) := by decide +kernel
theorem dX12_span_2 : decode cX12_span 2 = .ok (.putfield 85, 3) := by decide +kernel
theorem dX12_span_5 : decode cX12_span 5 = .ok (.aload_n 0, 1) := by decide +kernel
theorem dX12_span_6 : decode cX12_span 6 = .ok (.iconst (-1), 1) := by decide +kernel
theorem dX12_span_7 : decode cX12_span 7 = .ok (.putfield 55, 3) := by decide +kernel
theorem dX12_span_10 : decode cX12_span 10 = .ok (.iload_n 1, 1) := by decide +kernel
theorem dX12_span_11 : decode cX12_span 11 = .ok (.iconst 4, 1) := by decide +kernel
theorem dX12_span_12 : decode cX12_span 12 = .ok (.if_icmp .lt 59, 3) := by decide +kernel
theorem dX12_span_71 : decode cX12_span 71 = .ok (.iconst (-1), 1) := by decide +kernel
theorem dX12_span_72 : decode cX12_span 72 = .ok (.ireturn, 1) := by decide +kernel
theorem dX12_span_15 : decode cX12_span 15 = .ok (.iload_n 1, 1) := by decide +kernel
theorem dX12_span_16 : decode cX12_span 16 = .ok (.iconst 5, 1) := by decide +kernel
theorem dX12_span_17 : decode cX12_span 17 = .ok (.if_icmp .gt 54, 3) := by decide +kernel
theorem dX12_span_20 : decode cX12_span 20 = .ok (.iload_n 2, 1) := by decide +kernel
theorem dX12_span_21 : decode cX12_span 21 = .ok (.ifCond .lt 50, 3) := by decide +kernel
theorem dX12_span_24 : decode cX12_span 24 = .ok (.iload_n 2, 1) := by decide +kernel
theorem dX12_span_25 : decode cX12_span 25 = .ok (.sipush 255, 3) := by decide +kernel
theorem dX12_span_28 : decode cX12_span 28 = .ok (.if_icmp .gt 43, 3) := by decide +kernel
theorem dX12_span_31 : decode cX12_span 31 = .ok (.iload_n 3, 1) := by decide +kernel
theorem dX12_span_32 : decode cX12_span 32 = .ok (.iconst 1, 1) := by decide +kernel
theorem dX12_span_33 : decode cX12_span 33 = .ok (.if_icmp .lt 38, 3) := by decide +kernel
theorem dX12_span_36 : decode cX12_span 36 = .ok (.iload_n 3, 1) := by decide +kernel
theorem dX12_span_37 : decode cX12_span 37 = .ok (.sipush 256, 3) := by decide +kernel
theorem dX12_span_40 : decode cX12_span 40 = .ok (.iload_n 2, 1) := by decide +kernel
theorem dX12_span_41 : decode cX12_span 41 = .ok (.isub, 1) := by decide +kernel
theorem dX12_span_42 : decode cX12_span 42 = .ok (.if_icmp .gt 29, 3) := by decide +kernel
theorem dX12_span_45 : decode cX12_span 45 = .ok (.iload 5, 2) := by decide +kernel
theorem dX12_span_47 : decode cX12_span 47 = .ok (.sipush (-255), 3) := by decide +kernel
theorem dX12_span_50 : decode cX12_span 50 = .ok (.if_icmp .lt 21, 3) := by decide +kernel
theorem dX12_span_53 : decode cX12_span 53 = .ok (.iload 5, 2) := by decide +kernel
theorem dX12_span_55 : decode cX12_span 55 = .ok (.sipush 255, 3) := by decide +kernel
theorem dX12_span_58 : decode cX12_span 58 = .ok (.if_icmp .gt 13, 3) := by decide +kernel
theorem dX12_span_61 : decode cX12_span 61 = .ok (.iload_n 3, 1) := by decide +kernel
theorem dX12_span_62 : decode cX12_span 62 = .ok (.iconst 1, 1) := by decide +kernel
theorem dX12_span_63 : decode cX12_span 63 = .ok (.if_icmp .le 10, 3) := by decide +kernel
theorem dX12_span_73 : decode cX12_span 73 = .ok (.iload_n 1, 1) := by decide +kernel
theorem dX12_span_74 : decode cX12_span 74 = .ok (.iconst 4, 1) := by decide +kernel
theorem dX12_span_75 : decode cX12_span 75 = .ok (.isub, 1) := by decide +kernel
theorem dX12_span_76 : decode cX12_span 76 = .ok (.istore 6, 2) := by decide +kernel
theorem dX12_span_78 : decode cX12_span 78 = .ok (.iload 4, 2) := by decide +kernel
set_option maxRecDepth 20000 in
theorem ggX12_span_X12_isLetter : GoodIn wsX12_span wsX12_isLetter := goodIn_r _ [11, 5, 12, 13] rfl (by decide +kernel)
set_option maxRecDepth 20000 in
theorem gX12_span_X12_isLetter : GoodIn wsX12_span (va_wsS RX12 116 yX12_isLetter wsX12_isLetter) := goodIn_app (goodIn_r _ [8, 9, 10] rfl (by decide +kernel)) ggX12_span_X12_isLetter
theorem dX12_span_80 : decode cX12_span 80 = .ok (.invokestatic 116, 3) := by decide +kernel
theorem dX12_span_83 : decode cX12_span 83 = .ok (.ifCond .ne 5, 3) := by decide +kernel
theorem dX12_span_88 : decode cX12_span 88 = .ok (.iconst 0, 1) := by decide +kernel
theorem dX12_span_89 : decode cX12_span 89 = .ok (.istore 7, 2) := by decide +kernel
theorem dX12_span_91 : decode cX12_span 91 = .ok (.iload 7, 2) := by decide +kernel
theorem dX12_span_93 : decode cX12_span 93 = .ok (.iload_n 3, 1) := by decide +kernel
theorem dX12_span_94 : decode cX12_span 94 = .ok (.if_icmp .ge 66, 3) := by decide +kernel
theorem dX12_span_160 : decode cX12_span 160 = .ok (.iconst 0, 1) := by decide +kernel
theorem dX12_span_161 : decode cX12_span 161 = .ok (.istore 7, 2) := by decide +kernel
theorem dX12_span_163 : decode cX12_span 163 = .ok (.iload 7, 2) := by decide +kernel
theorem dX12_span_165 : decode cX12_span 165 = .ok (.iload_n 3, 1) := by decide +kernel
theorem dX12_span_166 : decode cX12_span 166 = .ok (.if_icmp .ge 57, 3) := by decide +kernel
theorem dX12_span_223 : decode cX12_span 223 = .ok (.aload_n 0, 1) := by decide +kernel
theorem dX12_span_224 : decode cX12_span 224 = .ok (.getfield 27, 3) := by decide +kernel
theorem dX12_span_227 : decode cX12_span 227 = .ok (.iload 6, 2) := by decide +kernel
theorem dX12_span_229 : decode cX12_span 229 = .ok (.dup2, 1) := by decide +kernel
theorem dX12_span_230 : decode cX12_span 230 = .ok (.iaload, 1) := by decide +kernel
theorem dX12_span_231 : decode cX12_span 231 = .ok (.iload_n 3, 1) := by decide +kernel
theorem dX12_span_232 : decode cX12_span 232 = .ok (.iadd, 1) := by decide +kernel
theorem dX12_span_233 : decode cX12_span 233 = .ok (.iastore, 1) := by decide +kernel
theorem dX12_span_234 : decode cX12_span 234 = .ok (.aload_n 0, 1) := by decide +kernel
theorem dX12_span_235 : decode cX12_span 235 = .ok (.dup, 1) := by decide +kernel
theorem dX12_span_236 : decode cX12_span 236 = .ok (.getfield 148, 3) := by decide +kernel
theorem dX12_span_239 : decode cX12_span 239 = .ok (.iconst 1, 1) := by decide +kernel
theorem dX12_span_240 : decode cX12_span 240 = .ok (.iadd, 1) := by decide +kernel
theorem dX12_span_241 : decode cX12_span 241 = .ok (.putfield 148, 3) := by decide +kernel
theorem dX12_span_244 : decode cX12_span 244 = .ok (.aload_n 0, 1) := by decide +kernel
theorem dX12_span_245 : decode cX12_span 245 = .ok (.getfield 27, 3) := by decide +kernel
theorem dX12_span_248 : decode cX12_span 248 = .ok (.iload 6, 2) := by decide +kernel
theorem dX12_span_250 : decode cX12_span 250 = .ok (.iaload, 1) := by decide +kernel
theorem dX12_span_251 : decode cX12_span 251 = .ok (.ireturn, 1) := by decide +kernel
theorem dX12_span_169 : decode cX12_span 169 = .ok (.aload_n 0, 1) := by decide +kernel
theorem dX12_span_170 : decode cX12_span 170 = .ok (.getfield 19, 3) := by decide +kernel
theorem dX12_span_173 : decode cX12_span 173 = .ok (.sipush 256, 3) := by decide +kernel
theorem dX12_span_176 : decode cX12_span 176 = .ok (.iload 6, 2) := by decide +kernel
theorem dX12_span_178 : decode cX12_span 178 = .ok (.imul, 1) := by decide +kernel
theorem dX12_span_179 : decode cX12_span 179 = .ok (.iload_n 2, 1) := by decide +kernel
theorem dX12_span_180 : decode cX12_span 180 = .ok (.iadd, 1) := by decide +kernel
theorem dX12_span_181 : decode cX12_span 181 = .ok (.iload 7, 2) := by decide +kernel
theorem dX12_span_183 : decode cX12_span 183 = .ok (.iadd, 1) := by decide +kernel
theorem dX12_span_184 : decode cX12_span 184 = .ok (.iload 4, 2) := by decide +kernel
theorem dX12_span_186 : decode cX12_span 186 = .ok (.iload 7, 2) := by decide +kernel
theorem dX12_span_188 : decode cX12_span 188 = .ok (.iload 5, 2) := by decide +kernel
theorem dX12_span_190 : decode cX12_span 190 = .ok (.imul, 1) := by decide +kernel
theorem dX12_span_191 : decode cX12_span 191 = .ok (.iadd, 1) := by decide +kernel
theorem dX12_span_192 : decode cX12_span 192 = .ok (.iastore, 1) := by decide +kernel
theorem dX12_span_193 : decode cX12_span 193 = .ok (.aload_n 0, 1) := by decide +kernel
theorem dX12_span_194 : decode cX12_span 194 = .ok (.getfield 23, 3) := by decide +kernel
theorem dX12_span_197 : decode cX12_span 197 = .ok (.ldc 88, 2) := by decide +kernel
theorem dX12_span_199 : decode cX12_span 199 = .ok (.iload 6, 2) := by decide +kernel
theorem dX12_span_201 : decode cX12_span 201 = .ok (.imul, 1) := by decide +kernel
theorem dX12_span_202 : decode cX12_span 202 = .ok (.iload 4, 2) := by decide +kernel
theorem dX12_span_204 : decode cX12_span 204 = .ok (.iadd, 1) := by decide +kernel
theorem dX12_span_205 : decode cX12_span 205 = .ok (.iload 7, 2) := by decide +kernel
theorem dX12_span_207 : decode cX12_span 207 = .ok (.iload 5, 2) := by decide +kernel
theorem dX12_span_209 : decode cX12_span 209 = .ok (.imul, 1) := by decide +kernel
theorem dX12_span_210 : decode cX12_span 210 = .ok (.iadd, 1) := by decide +kernel
theorem dX12_span_211 : decode cX12_span 211 = .ok (.iload_n 2, 1) := by decide +kernel
theorem dX12_span_212 : decode cX12_span 212 = .ok (.iload 7, 2) := by decide +kernel
theorem dX12_span_214 : decode cX12_span 214 = .ok (.iadd, 1) := by decide +kernel
theorem dX12_span_215 : decode cX12_span 215 = .ok (.i2s, 1) := by decide +kernel
theorem dX12_span_216 : decode cX12_span 216 = .ok (.sastore, 1) := by decide +kernel
theorem dX12_span_217 : decode cX12_span 217 = .ok (.iinc 7 1, 3) := by decide +kernel
theorem dX12_span_220 : decode cX12_span 220 = .ok (.goto (-57), 3) := by decide +kernel
theorem dX12_span_97 : decode cX12_span 97 = .ok (.iload 4, 2) := by decide +kernel
theorem dX12_span_99 : decode cX12_span 99 = .ok (.iload 7, 2) := by decide +kernel
theorem dX12_span_101 : decode cX12_span 101 = .ok (.iload 5, 2) := by decide +kernel
theorem dX12_span_103 : decode cX12_span 103 = .ok (.imul, 1) := by decide +kernel
theorem dX12_span_104 : decode cX12_span 104 = .ok (.iadd, 1) := by decide +kernel
theorem dX12_span_105 : decode cX12_span 105 = .ok (.istore 8, 2) := by decide +kernel
theorem dX12_span_107 : decode cX12_span 107 = .ok (.iload 8, 2) := by decide +kernel
theorem dX12_span_109 : decode cX12_span 109 = .ok (.invokestatic 116, 3) := by decide +kernel
theorem dX12_span_112 : decode cX12_span 112 = .ok (.ifCond .eq 40, 3) := by decide +kernel
theorem dX12_span_152 : decode cX12_span 152 = .ok (.iconst (-1), 1) := by decide +kernel
theorem dX12_span_153 : decode cX12_span 153 = .ok (.ireturn, 1) := by decide +kernel
theorem dX12_span_115 : decode cX12_span 115 = .ok (.aload_n 0, 1) := by decide +kernel
theorem dX12_span_116 : decode cX12_span 116 = .ok (.getfield 19, 3) := by decide +kernel
theorem dX12_span_119 : decode cX12_span 119 = .ok (.sipush 256, 3) := by decide +kernel
theorem dX12_span_122 : decode cX12_span 122 = .ok (.iload 6, 2) := by decide +kernel
theorem dX12_span_124 : decode cX12_span 124 = .ok (.imul, 1) := by decide +kernel
theorem dX12_span_125 : decode cX12_span 125 = .ok (.iload_n 2, 1) := by decide +kernel
theorem dX12_span_126 : decode cX12_span 126 = .ok (.iadd, 1) := by decide +kernel
theorem dX12_span_127 : decode cX12_span 127 = .ok (.iload 7, 2) := by decide +kernel
theorem dX12_span_129 : decode cX12_span 129 = .ok (.iadd, 1) := by decide +kernel
theorem dX12_span_130 : decode cX12_span 130 = .ok (.iaload, 1) := by decide +kernel
theorem dX12_span_131 : decode cX12_span 131 = .ok (.iconst (-1), 1) := by decide +kernel
theorem dX12_span_132 : decode cX12_span 132 = .ok (.if_icmp .ne 20, 3) := by decide +kernel
theorem dX12_span_135 : decode cX12_span 135 = .ok (.aload_n 0, 1) := by decide +kernel
theorem dX12_span_136 : decode cX12_span 136 = .ok (.getfield 23, 3) := by decide +kernel
theorem dX12_span_139 : decode cX12_span 139 = .ok (.ldc 88, 2) := by decide +kernel
theorem dX12_span_141 : decode cX12_span 141 = .ok (.iload 6, 2) := by decide +kernel
theorem dX12_span_143 : decode cX12_span 143 = .ok (.imul, 1) := by decide +kernel
theorem dX12_span_144 : decode cX12_span 144 = .ok (.iload 8, 2) := by decide +kernel
theorem dX12_span_146 : decode cX12_span 146 = .ok (.iadd, 1) := by decide +kernel
theorem dX12_span_147 : decode cX12_span 147 = .ok (.saload, 1) := by decide +kernel
theorem dX12_span_148 : decode cX12_span 148 = .ok (.iconst (-1), 1) := by decide +kernel
theorem dX12_span_149 : decode cX12_span 149 = .ok (.if_icmp .eq 5, 3) := by decide +kernel
theorem dX12_span_154 : decode cX12_span 154 = .ok (.iinc 7 1, 3) := by decide +kernel
theorem dX12_span_157 : decode cX12_span 157 = .ok (.goto (-66), 3) := by decide +kernel
theorem dX12_span_86 : decode cX12_span 86 = .ok (.iconst (-1), 1) := by decide +kernel
theorem dX12_span_87 : decode cX12_span 87 = .ok (.ireturn, 1) := by decide +kernel
theorem dX12_span_66 : decode cX12_span 66 = .ok (.iload 5, 2) := by decide +kernel
theorem dX12_span_68 : decode cX12_span 68 = .ok (.ifCond .ne 5, 3) := by decide +kernel
theorem dX12_blank_0 : decode cX12_blank 0 = .ok (.aload_n 0, 1) := by decide +kernel
theorem dX12_blank_1 : decode cX12_blank 1 = .ok (.iconst 0, 1) := by decide +kernel
theorem dX12_blank_2 : decode cX12_blank 2 = .ok (.putfield 85, 3) := by decide +kernel
theorem dX12_blank_5 : decode cX12_blank 5 = .ok (.iload_n 1, 1) := by decide +kernel
theorem dX12_blank_6 : decode cX12_blank 6 = .ok (.iconst 4, 1) := by decide +kernel
theorem dX12_blank_7 : decode cX12_blank 7 = .ok (.if_icmp .lt 8, 3) := by decide +kernel
theorem dX12_blank_15 : decode cX12_blank 15 = .ok (.iconst 0, 1) := by decide +kernel
theorem dX12_blank_16 : decode cX12_blank 16 = .ok (.ireturn, 1) := by decide +kernel
theorem dX12_blank_10 : decode cX12_blank 10 = .ok (.iload_n 1, 1) := by decide +kernel
theorem dX12_blank_11 : decode cX12_blank 11 = .ok (.iconst 5, 1) := by decide +kernel
theorem dX12_blank_12 : decode cX12_blank 12 = .ok (.if_icmp .le 5, 3) := by decide +kernel
theorem dX12_blank_17 : decode cX12_blank 17 = .ok (.iload_n 1, 1) := by decide +kernel
theorem dX12_blank_18 : decode cX12_blank 18 = .ok (.iconst 4, 1) := by decide +kernel
theorem dX12_blank_19 : decode cX12_blank 19 = .ok (.isub, 1) := by decide +kernel
theorem dX12_blank_20 : decode cX12_blank 20 = .ok (.istore_n 2, 1) := by decide +kernel
theorem dX12_blank_21 : decode cX12_blank 21 = .ok (.iconst 0, 1) := by decide +kernel
theorem dX12_blank_22 : decode cX12_blank 22 = .ok (.istore_n 3, 1) := by decide +kernel
theorem dX12_blank_23 : decode cX12_blank 23 = .ok (.iload_n 3, 1) := by decide +kernel
theorem dX12_blank_24 : decode cX12_blank 24 = .ok (.sipush 256, 3) := by decide +kernel
theorem dX12_blank_27 : decode cX12_blank 27 = .ok (.if_icmp .ge 22, 3) := by decide +kernel
theorem dX12_blank_49 : decode cX12_blank 49 = .ok (.iconst 0, 1) := by decide +kernel
theorem dX12_blank_50 : decode cX12_blank 50 = .ok (.istore_n 3, 1) := by decide +kernel
theorem dX12_blank_51 : decode cX12_blank 51 = .ok (.iload_n 3, 1) := by decide +kernel
theorem dX12_blank_52 : decode cX12_blank 52 = .ok (.ldc 88, 2) := by decide +kernel
theorem dX12_blank_54 : decode cX12_blank 54 = .ok (.if_icmp .ge 21, 3) := by decide +kernel
theorem dX12_blank_75 : decode cX12_blank 75 = .ok (.aload_n 0, 1) := by decide +kernel
theorem dX12_blank_76 : decode cX12_blank 76 = .ok (.getfield 27, 3) := by decide +kernel
theorem dX12_blank_79 : decode cX12_blank 79 = .ok (.iload_n 2, 1) := by decide +kernel
theorem dX12_blank_80 : decode cX12_blank 80 = .ok (.iconst 0, 1) := by decide +kernel
theorem dX12_blank_81 : decode cX12_blank 81 = .ok (.iastore, 1) := by decide +kernel
theorem dX12_blank_82 : decode cX12_blank 82 = .ok (.aload_n 0, 1) := by decide +kernel
theorem dX12_blank_83 : decode cX12_blank 83 = .ok (.dup, 1) := by decide +kernel
theorem dX12_blank_84 : decode cX12_blank 84 = .ok (.getfield 148, 3) := by decide +kernel
theorem dX12_blank_87 : decode cX12_blank 87 = .ok (.iconst 1, 1) := by decide +kernel
theorem dX12_blank_88 : decode cX12_blank 88 = .ok (.iadd, 1) := by decide +kernel
theorem dX12_blank_89 : decode cX12_blank 89 = .ok (.putfield 148, 3) := by decide +kernel
theorem dX12_blank_92 : decode cX12_blank 92 = .ok (.iconst 1, 1) := by decide +kernel
theorem dX12_blank_93 : decode cX12_blank 93 = .ok (.ireturn, 1) := by decide +kernel
theorem dX12_blank_57 : decode cX12_blank 57 = .ok (.aload_n 0, 1) := by decide +kernel
theorem dX12_blank_58 : decode cX12_blank 58 = .ok (.getfield 23, 3) := by decide +kernel
theorem dX12_blank_61 : decode cX12_blank 61 = .ok (.ldc 88, 2) := by decide +kernel
theorem dX12_blank_63 : decode cX12_blank 63 = .ok (.iload_n 2, 1) := by decide +kernel
theorem dX12_blank_64 : decode cX12_blank 64 = .ok (.imul, 1) := by decide +kernel
theorem dX12_blank_65 : decode cX12_blank 65 = .ok (.iload_n 3, 1) := by decide +kernel
theorem dX12_blank_66 : decode cX12_blank 66 = .ok (.iadd, 1) := by decide +kernel
theorem dX12_blank_67 : decode cX12_blank 67 = .ok (.iconst (-1), 1) := by decide +kernel
theorem dX12_blank_68 : decode cX12_blank 68 = .ok (.sastore, 1) := by decide +kernel
theorem dX12_blank_69 : decode cX12_blank 69 = .ok (.iinc 3 1, 3) := by decide +kernel
theorem dX12_blank_72 : decode cX12_blank 72 = .ok (.goto (-21), 3) := by decide +kernel
theorem dX12_blank_30 : decode cX12_blank 30 = .ok (.aload_n 0, 1) := by decide +kernel
theorem dX12_blank_31 : decode cX12_blank 31 = .ok (.getfield 19, 3) := by decide +kernel
theorem dX12_blank_34 : decode cX12_blank 34 = .ok (.sipush 256, 3) := by decide +kernel
theorem dX12_blank_37 : decode cX12_blank 37 = .ok (.iload_n 2, 1) := by decide +kernel
theorem dX12_blank_38 : decode cX12_blank 38 = .ok (.imul, 1) := by decide +kernel
theorem dX12_blank_39 : decode cX12_blank 39 = .ok (.iload_n 3, 1) := by decide +kernel
theorem dX12_blank_40 : decode cX12_blank 40 = .ok (.iadd, 1) := by decide +kernel
theorem dX12_blank_41 : decode cX12_blank 41 = .ok (.iconst (-1), 1) := by decide +kernel
theorem dX12_blank_42 : decode cX12_blank 42 = .ok (.iastore, 1) := by decide +kernel
theorem dX12_blank_43 : decode cX12_blank 43 = .ok (.iinc 3 1, 3) := by decide +kernel
theorem dX12_blank_46 : decode cX12_blank 46 = .ok (.goto (-23), 3) := by decide +kernel
