theorem dX12_mend_0 : decode cX12_mend 0 = .ok (.aload_n 0, 1) := by decide +kernel
theorem dX12_mend_1 : decode cX12_mend 1 = .ok (.iconst 0, 1) := by decide +kernel
theorem dX12_mend_2 : decode cX12_mend 2 = .ok (.putfield 85, 3) := by decide +kernel
theorem dX12_mend_5 : decode cX12_mend 5 = .ok (.aload_n 0, 1) := by decide +kernel
theorem dX12_mend_6 : decode cX12_mend 6 = .ok (.iconst (-1), 1) := by decide +kernel
theorem dX12_mend_7 : decode cX12_mend 7 = .ok (.putfield 55, 3) := by decide +kernel
theorem dX12_mend_10 : decode cX12_mend 10 = .ok (.iload_n 1, 1) := by decide +kernel
theorem dX12_mend_11 : decode cX12_mend 11 = .ok (.iconst 1, 1) := by decide +kernel
theorem dX12_mend_12 : decode cX12_mend 12 = .ok (.if_icmp .lt 19, 3) := by decide +kernel
theorem dX12_mend_31 : decode cX12_mend 31 = .ok (.iconst (-1), 1) := by decide +kernel
theorem dX12_mend_32 : decode cX12_mend 32 = .ok (.ireturn, 1) := by decide +kernel
theorem dX12_mend_15 : decode cX12_mend 15 = .ok (.iload_n 1, 1) := by decide +kernel
theorem dX12_mend_16 : decode cX12_mend 16 = .ok (.iconst 3, 1) := by decide +kernel
theorem dX12_mend_17 : decode cX12_mend 17 = .ok (.if_icmp .gt 14, 3) := by decide +kernel
theorem dX12_mend_20 : decode cX12_mend 20 = .ok (.iload_n 2, 1) := by decide +kernel
theorem dX12_mend_21 : decode cX12_mend 21 = .ok (.iconst 1, 1) := by decide +kernel
theorem dX12_mend_22 : decode cX12_mend 22 = .ok (.if_icmp .lt 9, 3) := by decide +kernel
theorem dX12_mend_25 : decode cX12_mend 25 = .ok (.iload_n 2, 1) := by decide +kernel
theorem dX12_mend_26 : decode cX12_mend 26 = .ok (.ldc 198, 2) := by decide +kernel
theorem dX12_mend_28 : decode cX12_mend 28 = .ok (.if_icmp .le 5, 3) := by decide +kernel
theorem dX12_mend_33 : decode cX12_mend 33 = .ok (.iconst (-1), 1) := by decide +kernel
theorem dX12_mend_34 : decode cX12_mend 34 = .ok (.istore_n 3, 1) := by decide +kernel
theorem dX12_mend_35 : decode cX12_mend 35 = .ok (.iconst 0, 1) := by decide +kernel
theorem dX12_mend_36 : decode cX12_mend 36 = .ok (.istore 4, 2) := by decide +kernel
theorem dX12_mend_38 : decode cX12_mend 38 = .ok (.iconst 0, 1) := by decide +kernel
theorem dX12_mend_39 : decode cX12_mend 39 = .ok (.istore 5, 2) := by decide +kernel
theorem dX12_mend_41 : decode cX12_mend 41 = .ok (.iconst 0, 1) := by decide +kernel
theorem dX12_mend_42 : decode cX12_mend 42 = .ok (.istore 6, 2) := by decide +kernel
theorem dX12_mend_44 : decode cX12_mend 44 = .ok (.iconst 0, 1) := by decide +kernel
theorem dX12_mend_45 : decode cX12_mend 45 = .ok (.istore 7, 2) := by decide +kernel
theorem dX12_mend_47 : decode cX12_mend 47 = .ok (.iconst 1, 1) := by decide +kernel
theorem dX12_mend_48 : decode cX12_mend 48 = .ok (.istore 8, 2) := by decide +kernel
theorem dX12_mend_50 : decode cX12_mend 50 = .ok (.iload 8, 2) := by decide +kernel
theorem dX12_mend_52 : decode cX12_mend 52 = .ok (.iload_n 1, 1) := by decide +kernel
theorem dX12_mend_53 : decode cX12_mend 53 = .ok (.if_icmp .gt 106, 3) := by decide +kernel
theorem dX12_mend_159 : decode cX12_mend 159 = .ok (.iload_n 3, 1) := by decide +kernel
theorem dX12_mend_160 : decode cX12_mend 160 = .ok (.iconst (-1), 1) := by decide +kernel
theorem dX12_mend_161 : decode cX12_mend 161 = .ok (.if_icmp .eq 25, 3) := by decide +kernel
theorem dX12_mend_186 : decode cX12_mend 186 = .ok (.iconst (-1), 1) := by decide +kernel
theorem dX12_mend_187 : decode cX12_mend 187 = .ok (.ireturn, 1) := by decide +kernel
theorem dX12_mend_164 : decode cX12_mend 164 = .ok (.aload_n 0, 1) := by decide +kernel
theorem dX12_mend_165 : decode cX12_mend 165 = .ok (.aload_n 0, 1) := by decide +kernel
theorem dX12_mend_166 : decode cX12_mend 166 = .ok (.getfield 16, 3) := by decide +kernel
theorem dX12_mend_169 : decode cX12_mend 169 = .ok (.iconst 0, 1) := by decide +kernel
theorem dX12_mend_170 : decode cX12_mend 170 = .ok (.aload_n 0, 1) := by decide +kernel
theorem dX12_mend_171 : decode cX12_mend 171 = .ok (.getfield 13, 3) := by decide +kernel
theorem dX12_mend_174 : decode cX12_mend 174 = .ok (.iconst 0, 1) := by decide +kernel
theorem dX12_mend_175 : decode cX12_mend 175 = .ok (.iaload, 1) := by decide +kernel
set_option maxRecDepth 20000 in
theorem ggX12_mend_X12_costOf_ : GoodIn wsX12_mend wsX12_costOf_ := goodIn_r _ [77, 78, 79, 80, 11, 81, 82, 83, 84, 85, 86, 87, 88, 96, 97, 98, 99, 100, 101, 102, 103, 104, 105, 106, 107, 108, 109, 110, 111, 112, 113, 114, 115, 116, 117, 118, 119, 120, 121, 122, 123, 124, 125, 126, 127, 128, 129, 130, 131, 132, 133, 134, 135] rfl (by decide +kernel)
set_option maxRecDepth 20000 in
theorem gX12_mend_X12_costOf_ : GoodIn wsX12_mend (wsV RX12 189 RX12 yX12_costOf_ wsX12_costOf_) := goodIn_app (goodIn_r _ [74, 75, 76, 11] rfl (by decide +kernel)) ggX12_mend_X12_costOf_
theorem dX12_mend_176 : decode cX12_mend 176 = .ok (.invokevirtual 189, 3) := by decide +kernel
theorem dX12_mend_179 : decode cX12_mend 179 = .ok (.iload 6, 2) := by decide +kernel
theorem dX12_mend_181 : decode cX12_mend 181 = .ok (.isub, 1) := by decide +kernel
theorem dX12_mend_182 : decode cX12_mend 182 = .ok (.iload_n 2, 1) := by decide +kernel
theorem dX12_mend_183 : decode cX12_mend 183 = .ok (.if_icmp .ge 5, 3) := by decide +kernel
theorem dX12_mend_188 : decode cX12_mend 188 = .ok (.aload_n 0, 1) := by decide +kernel
theorem dX12_mend_189 : decode cX12_mend 189 = .ok (.iload 5, 2) := by decide +kernel
theorem dX12_mend_191 : decode cX12_mend 191 = .ok (.iload 4, 2) := by decide +kernel
set_option maxRecDepth 20000 in
theorem ggX12_mend_X12_makes : GoodIn wsX12_mend wsX12_makes := goodIn_r _ [16, 4, 17, 18, 19, 20, 21, 11, 22, 8, 6, 5, 7, 23, 24, 25, 26, 27, 28, 29, 30, 31, 32, 33, 34, 35, 36, 37, 38, 39, 40, 41, 42, 43, 44, 45, 46, 47, 48, 49, 50, 51, 52, 53, 54, 55, 56, 57, 58, 59, 60, 61, 62, 63, 64, 65, 66, 67, 68, 69, 70, 71, 72, 73, 96, 97, 98, 99, 100, 101, 102, 103, 104, 105, 106, 107, 108, 109, 110, 111, 112, 113, 114, 115, 116, 117, 118, 119, 120, 121, 122, 123, 124, 125, 126, 127, 128, 129, 130, 131, 132, 133, 134, 135] rfl (by decide +kernel)
set_option maxRecDepth 20000 in
theorem gX12_mend_X12_makes : GoodIn wsX12_mend (wsV RX12 186 RX12 yX12_makes wsX12_makes) := goodIn_app (goodIn_r _ [13, 14, 15, 11] rfl (by decide +kernel)) ggX12_mend_X12_makes
theorem dX12_mend_193 : decode cX12_mend 193 = .ok (.invokevirtual 186, 3) := by decide +kernel
theorem dX12_mend_196 : decode cX12_mend 196 = .ok (.pop, 1) := by decide +kernel
theorem dX12_mend_197 : decode cX12_mend 197 = .ok (.aload_n 0, 1) := by decide +kernel
theorem dX12_mend_198 : decode cX12_mend 198 = .ok (.aload_n 0, 1) := by decide +kernel
theorem dX12_mend_199 : decode cX12_mend 199 = .ok (.getfield 64, 3) := by decide +kernel
theorem dX12_mend_202 : decode cX12_mend 202 = .ok (.aload_n 0, 1) := by decide +kernel
theorem dX12_mend_203 : decode cX12_mend 203 = .ok (.getfield 135, 3) := by decide +kernel
set_option maxRecDepth 20000 in
theorem ggX12_mend_X12_become : GoodIn wsX12_mend wsX12_become := goodIn_r _ [92, 93, 94, 8, 7, 95, 96, 97, 98, 99, 100, 101, 102, 103, 104, 105, 106, 107, 108, 109, 110, 111, 112, 113, 114, 115, 116, 117, 118, 119, 120, 121, 122, 123, 124, 125, 126, 127, 128, 129, 130, 131, 132, 133, 134, 135] rfl (by decide +kernel)
set_option maxRecDepth 20000 in
theorem gX12_mend_X12_become : GoodIn wsX12_mend (wsV RX12 154 RX12 yX12_become wsX12_become) := goodIn_app (goodIn_r _ [89, 90, 91, 11] rfl (by decide +kernel)) ggX12_mend_X12_become
theorem dX12_mend_206 : decode cX12_mend 206 = .ok (.invokevirtual 154, 3) := by decide +kernel
theorem dX12_mend_209 : decode cX12_mend 209 = .ok (.iload_n 3, 1) := by decide +kernel
theorem dX12_mend_210 : decode cX12_mend 210 = .ok (.ireturn, 1) := by decide +kernel
theorem dX12_mend_56 : decode cX12_mend 56 = .ok (.aload_n 0, 1) := by decide +kernel
theorem dX12_mend_57 : decode cX12_mend 57 = .ok (.getfield 161, 3) := by decide +kernel
theorem dX12_mend_60 : decode cX12_mend 60 = .ok (.ifCond .ne 7, 3) := by decide +kernel
theorem dX12_mend_67 : decode cX12_mend 67 = .ok (.aload_n 0, 1) := by decide +kernel
theorem dX12_mend_68 : decode cX12_mend 68 = .ok (.getfield 161, 3) := by decide +kernel
theorem dX12_mend_71 : decode cX12_mend 71 = .ok (.iload 8, 2) := by decide +kernel
set_option maxRecDepth 20000 in
theorem ggX12_mend_X12_power : GoodIn wsX12_mend wsX12_power := goodIn_r _ [12] rfl (by decide +kernel)
set_option maxRecDepth 20000 in
theorem gX12_mend_X12_power : GoodIn wsX12_mend (va_wsS RX12 183 yX12_power wsX12_power) := goodIn_app (goodIn_r _ [9, 10, 11] rfl (by decide +kernel)) ggX12_mend_X12_power
theorem dX12_mend_73 : decode cX12_mend 73 = .ok (.invokestatic 183, 3) := by decide +kernel
theorem dX12_mend_76 : decode cX12_mend 76 = .ok (.istore 9, 2) := by decide +kernel
theorem dX12_mend_78 : decode cX12_mend 78 = .ok (.iconst 0, 1) := by decide +kernel
theorem dX12_mend_79 : decode cX12_mend 79 = .ok (.istore 10, 2) := by decide +kernel
theorem dX12_mend_81 : decode cX12_mend 81 = .ok (.iload 10, 2) := by decide +kernel
theorem dX12_mend_83 : decode cX12_mend 83 = .ok (.iload 9, 2) := by decide +kernel
theorem dX12_mend_85 : decode cX12_mend 85 = .ok (.if_icmp .ge 68, 3) := by decide +kernel
theorem dX12_mend_153 : decode cX12_mend 153 = .ok (.iinc 8 1, 3) := by decide +kernel
theorem dX12_mend_156 : decode cX12_mend 156 = .ok (.goto (-106), 3) := by decide +kernel
theorem dX12_mend_88 : decode cX12_mend 88 = .ok (.aload_n 0, 1) := by decide +kernel
theorem dX12_mend_89 : decode cX12_mend 89 = .ok (.iload 10, 2) := by decide +kernel
theorem dX12_mend_91 : decode cX12_mend 91 = .ok (.iload 8, 2) := by decide +kernel
theorem dX12_mend_93 : decode cX12_mend 93 = .ok (.invokevirtual 186, 3) := by decide +kernel
theorem dX12_mend_96 : decode cX12_mend 96 = .ok (.ifCond .ne 6, 3) := by decide +kernel
theorem dX12_mend_102 : decode cX12_mend 102 = .ok (.aload_n 0, 1) := by decide +kernel
theorem dX12_mend_103 : decode cX12_mend 103 = .ok (.aload_n 0, 1) := by decide +kernel
theorem dX12_mend_104 : decode cX12_mend 104 = .ok (.getfield 64, 3) := by decide +kernel
theorem dX12_mend_107 : decode cX12_mend 107 = .ok (.iconst 0, 1) := by decide +kernel
theorem dX12_mend_108 : decode cX12_mend 108 = .ok (.aload_n 0, 1) := by decide +kernel
theorem dX12_mend_109 : decode cX12_mend 109 = .ok (.getfield 135, 3) := by decide +kernel
theorem dX12_mend_112 : decode cX12_mend 112 = .ok (.invokevirtual 189, 3) := by decide +kernel
theorem dX12_mend_115 : decode cX12_mend 115 = .ok (.istore 11, 2) := by decide +kernel
theorem dX12_mend_117 : decode cX12_mend 117 = .ok (.iload_n 3, 1) := by decide +kernel
theorem dX12_mend_118 : decode cX12_mend 118 = .ok (.iconst (-1), 1) := by decide +kernel
theorem dX12_mend_119 : decode cX12_mend 119 = .ok (.if_icmp .eq 10, 3) := by decide +kernel
theorem dX12_mend_129 : decode cX12_mend 129 = .ok (.iload 7, 2) := by decide +kernel
theorem dX12_mend_131 : decode cX12_mend 131 = .ok (.istore_n 3, 1) := by decide +kernel
theorem dX12_mend_132 : decode cX12_mend 132 = .ok (.iload 8, 2) := by decide +kernel
theorem dX12_mend_134 : decode cX12_mend 134 = .ok (.istore 4, 2) := by decide +kernel
theorem dX12_mend_136 : decode cX12_mend 136 = .ok (.iload 10, 2) := by decide +kernel
theorem dX12_mend_138 : decode cX12_mend 138 = .ok (.istore 5, 2) := by decide +kernel
theorem dX12_mend_140 : decode cX12_mend 140 = .ok (.iload 11, 2) := by decide +kernel
theorem dX12_mend_142 : decode cX12_mend 142 = .ok (.istore 6, 2) := by decide +kernel
theorem dX12_mend_144 : decode cX12_mend 144 = .ok (.iinc 7 1, 3) := by decide +kernel
theorem dX12_mend_147 : decode cX12_mend 147 = .ok (.iinc 10 1, 3) := by decide +kernel
theorem dX12_mend_150 : decode cX12_mend 150 = .ok (.goto (-69), 3) := by decide +kernel
theorem dX12_mend_122 : decode cX12_mend 122 = .ok (.iload 11, 2) := by decide +kernel
theorem dX12_mend_124 : decode cX12_mend 124 = .ok (.iload 6, 2) := by decide +kernel
theorem dX12_mend_126 : decode cX12_mend 126 = .ok (.if_icmp .ge 18, 3) := by decide +kernel
theorem dX12_mend_99 : decode cX12_mend 99 = .ok (.goto 48, 3) := by decide +kernel
theorem dX12_mend_63 : decode cX12_mend 63 = .ok (.iconst 0, 1) := by decide +kernel
theorem dX12_mend_64 : decode cX12_mend 64 = .ok (.goto 12, 3) := by decide +kernel
