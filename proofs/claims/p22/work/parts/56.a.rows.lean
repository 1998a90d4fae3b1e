theorem dX12_rows_0 : decode cX12_rows 0 = .ok (.aload_n 0, 1) := by decide +kernel
theorem dX12_rows_1 : decode cX12_rows 1 = .ok (.iconst 0, 1) := by decide +kernel
theorem dX12_rows_2 : decode cX12_rows 2 = .ok (.putfield 85, 3) := by decide +kernel
theorem dX12_rows_5 : decode cX12_rows 5 = .ok (.aload_n 0, 1) := by decide +kernel
theorem dX12_rows_6 : decode cX12_rows 6 = .ok (.iconst (-1), 1) := by decide +kernel
theorem dX12_rows_7 : decode cX12_rows 7 = .ok (.putfield 55, 3) := by decide +kernel
theorem dX12_rows_10 : decode cX12_rows 10 = .ok (.iload_n 1, 1) := by decide +kernel
theorem dX12_rows_11 : decode cX12_rows 11 = .ok (.iconst 1, 1) := by decide +kernel
theorem dX12_rows_12 : decode cX12_rows 12 = .ok (.if_icmp .lt 8, 3) := by decide +kernel
theorem dX12_rows_20 : decode cX12_rows 20 = .ok (.iconst (-1), 1) := by decide +kernel
theorem dX12_rows_21 : decode cX12_rows 21 = .ok (.ireturn, 1) := by decide +kernel
theorem dX12_rows_15 : decode cX12_rows 15 = .ok (.iload_n 1, 1) := by decide +kernel
theorem dX12_rows_16 : decode cX12_rows 16 = .ok (.iconst 3, 1) := by decide +kernel
theorem dX12_rows_17 : decode cX12_rows 17 = .ok (.if_icmp .le 5, 3) := by decide +kernel
theorem dX12_rows_22 : decode cX12_rows 22 = .ok (.aload_n 0, 1) := by decide +kernel
theorem dX12_rows_23 : decode cX12_rows 23 = .ok (.iconst 0, 1) := by decide +kernel
theorem dX12_rows_24 : decode cX12_rows 24 = .ok (.putfield 180, 3) := by decide +kernel
theorem dX12_rows_27 : decode cX12_rows 27 = .ok (.iconst 1, 1) := by decide +kernel
theorem dX12_rows_28 : decode cX12_rows 28 = .ok (.istore_n 2, 1) := by decide +kernel
theorem dX12_rows_29 : decode cX12_rows 29 = .ok (.iload_n 2, 1) := by decide +kernel
theorem dX12_rows_30 : decode cX12_rows 30 = .ok (.iload_n 1, 1) := by decide +kernel
theorem dX12_rows_31 : decode cX12_rows 31 = .ok (.if_icmp .gt 177, 3) := by decide +kernel
theorem dX12_rows_208 : decode cX12_rows 208 = .ok (.aload_n 0, 1) := by decide +kernel
theorem dX12_rows_209 : decode cX12_rows 209 = .ok (.getfield 180, 3) := by decide +kernel
theorem dX12_rows_212 : decode cX12_rows 212 = .ok (.ireturn, 1) := by decide +kernel
theorem dX12_rows_34 : decode cX12_rows 34 = .ok (.aload_n 0, 1) := by decide +kernel
theorem dX12_rows_35 : decode cX12_rows 35 = .ok (.getfield 161, 3) := by decide +kernel
theorem dX12_rows_38 : decode cX12_rows 38 = .ok (.ifCond .ne 7, 3) := by decide +kernel
theorem dX12_rows_45 : decode cX12_rows 45 = .ok (.aload_n 0, 1) := by decide +kernel
theorem dX12_rows_46 : decode cX12_rows 46 = .ok (.getfield 161, 3) := by decide +kernel
theorem dX12_rows_49 : decode cX12_rows 49 = .ok (.iload_n 2, 1) := by decide +kernel
set_option maxRecDepth 20000 in
theorem ggX12_rows_X12_power : GoodIn wsX12_rows wsX12_power := goodIn_r _ [11] rfl (by decide +kernel)
set_option maxRecDepth 20000 in
theorem gX12_rows_X12_power : GoodIn wsX12_rows (va_wsS RX12 183 yX12_power wsX12_power) := goodIn_app (goodIn_r _ [8, 9, 10] rfl (by decide +kernel)) ggX12_rows_X12_power
theorem dX12_rows_50 : decode cX12_rows 50 = .ok (.invokestatic 183, 3) := by decide +kernel
theorem dX12_rows_53 : decode cX12_rows 53 = .ok (.istore_n 3, 1) := by decide +kernel
theorem dX12_rows_54 : decode cX12_rows 54 = .ok (.iconst 0, 1) := by decide +kernel
theorem dX12_rows_55 : decode cX12_rows 55 = .ok (.istore 4, 2) := by decide +kernel
theorem dX12_rows_57 : decode cX12_rows 57 = .ok (.iload 4, 2) := by decide +kernel
theorem dX12_rows_59 : decode cX12_rows 59 = .ok (.iload_n 3, 1) := by decide +kernel
theorem dX12_rows_60 : decode cX12_rows 60 = .ok (.if_icmp .ge 142, 3) := by decide +kernel
theorem dX12_rows_202 : decode cX12_rows 202 = .ok (.iinc 2 1, 3) := by decide +kernel
theorem dX12_rows_205 : decode cX12_rows 205 = .ok (.goto (-176), 3) := by decide +kernel
theorem dX12_rows_63 : decode cX12_rows 63 = .ok (.aload_n 0, 1) := by decide +kernel
theorem dX12_rows_64 : decode cX12_rows 64 = .ok (.iload 4, 2) := by decide +kernel
theorem dX12_rows_66 : decode cX12_rows 66 = .ok (.iload_n 2, 1) := by decide +kernel
set_option maxRecDepth 20000 in
theorem ggX12_rows_X12_makes : GoodIn wsX12_rows wsX12_makes := goodIn_r _ [15, 4, 16, 17, 18, 19, 20, 10, 21, 22, 7, 6, 23, 24, 25, 26, 27, 28, 29, 30, 31, 32, 33, 34, 35, 36, 37, 38, 39, 40, 41, 42, 43, 44, 45, 46, 47, 48, 49, 50, 51, 52, 53, 54, 55, 56, 57, 58, 59, 60, 61, 62, 63, 64, 65, 66, 67, 68, 69, 70, 71, 72, 73, 74, 90, 91, 92, 93, 94, 95, 96, 97, 98, 99, 100, 101, 102, 103, 104, 105, 106, 107, 108, 109, 110, 111, 112, 113, 114, 115, 116, 117, 118, 119, 120, 121, 122, 123, 124, 125, 126, 127, 128, 129] rfl (by decide +kernel)
set_option maxRecDepth 20000 in
theorem gX12_rows_X12_makes : GoodIn wsX12_rows (wsV RX12 186 RX12 yX12_makes wsX12_makes) := goodIn_app (goodIn_r _ [12, 13, 14, 10] rfl (by decide +kernel)) ggX12_rows_X12_makes
theorem dX12_rows_67 : decode cX12_rows 67 = .ok (.invokevirtual 186, 3) := by decide +kernel
theorem dX12_rows_70 : decode cX12_rows 70 = .ok (.ifCond .ne 6, 3) := by decide +kernel
theorem dX12_rows_76 : decode cX12_rows 76 = .ok (.bipush 6, 2) := by decide +kernel
theorem dX12_rows_78 : decode cX12_rows 78 = .ok (.aload_n 0, 1) := by decide +kernel
theorem dX12_rows_79 : decode cX12_rows 79 = .ok (.getfield 180, 3) := by decide +kernel
theorem dX12_rows_82 : decode cX12_rows 82 = .ok (.imul, 1) := by decide +kernel
theorem dX12_rows_83 : decode cX12_rows 83 = .ok (.istore 5, 2) := by decide +kernel
theorem dX12_rows_85 : decode cX12_rows 85 = .ok (.aload_n 0, 1) := by decide +kernel
theorem dX12_rows_86 : decode cX12_rows 86 = .ok (.getfield 36, 3) := by decide +kernel
theorem dX12_rows_89 : decode cX12_rows 89 = .ok (.iload 5, 2) := by decide +kernel
theorem dX12_rows_91 : decode cX12_rows 91 = .ok (.iload_n 2, 1) := by decide +kernel
theorem dX12_rows_92 : decode cX12_rows 92 = .ok (.iastore, 1) := by decide +kernel
theorem dX12_rows_93 : decode cX12_rows 93 = .ok (.iconst 0, 1) := by decide +kernel
theorem dX12_rows_94 : decode cX12_rows 94 = .ok (.istore 6, 2) := by decide +kernel
theorem dX12_rows_96 : decode cX12_rows 96 = .ok (.iload 6, 2) := by decide +kernel
theorem dX12_rows_98 : decode cX12_rows 98 = .ok (.iconst 3, 1) := by decide +kernel
theorem dX12_rows_99 : decode cX12_rows 99 = .ok (.if_icmp .ge 52, 3) := by decide +kernel
theorem dX12_rows_151 : decode cX12_rows 151 = .ok (.aload_n 0, 1) := by decide +kernel
theorem dX12_rows_152 : decode cX12_rows 152 = .ok (.getfield 36, 3) := by decide +kernel
theorem dX12_rows_155 : decode cX12_rows 155 = .ok (.iload 5, 2) := by decide +kernel
theorem dX12_rows_157 : decode cX12_rows 157 = .ok (.iconst 4, 1) := by decide +kernel
theorem dX12_rows_158 : decode cX12_rows 158 = .ok (.iadd, 1) := by decide +kernel
theorem dX12_rows_159 : decode cX12_rows 159 = .ok (.aload_n 0, 1) := by decide +kernel
theorem dX12_rows_160 : decode cX12_rows 160 = .ok (.aload_n 0, 1) := by decide +kernel
theorem dX12_rows_161 : decode cX12_rows 161 = .ok (.getfield 64, 3) := by decide +kernel
theorem dX12_rows_164 : decode cX12_rows 164 = .ok (.iconst 0, 1) := by decide +kernel
theorem dX12_rows_165 : decode cX12_rows 165 = .ok (.aload_n 0, 1) := by decide +kernel
theorem dX12_rows_166 : decode cX12_rows 166 = .ok (.getfield 135, 3) := by decide +kernel
set_option maxRecDepth 20000 in
theorem ggX12_rows_X12_costOf_ : GoodIn wsX12_rows wsX12_costOf_ := goodIn_r _ [78, 79, 80, 81, 10, 82, 83, 84, 85, 86, 87, 88, 89, 90, 91, 92, 93, 94, 95, 96, 97, 98, 99, 100, 101, 102, 103, 104, 105, 106, 107, 108, 109, 110, 111, 112, 113, 114, 115, 116, 117, 118, 119, 120, 121, 122, 123, 124, 125, 126, 127, 128, 129] rfl (by decide +kernel)
set_option maxRecDepth 20000 in
theorem gX12_rows_X12_costOf_ : GoodIn wsX12_rows (wsV RX12 189 RX12 yX12_costOf_ wsX12_costOf_) := goodIn_app (goodIn_r _ [75, 76, 77, 10] rfl (by decide +kernel)) ggX12_rows_X12_costOf_
theorem dX12_rows_169 : decode cX12_rows 169 = .ok (.invokevirtual 189, 3) := by decide +kernel
theorem dX12_rows_172 : decode cX12_rows 172 = .ok (.iastore, 1) := by decide +kernel
theorem dX12_rows_173 : decode cX12_rows 173 = .ok (.aload_n 0, 1) := by decide +kernel
theorem dX12_rows_174 : decode cX12_rows 174 = .ok (.getfield 36, 3) := by decide +kernel
theorem dX12_rows_177 : decode cX12_rows 177 = .ok (.iload 5, 2) := by decide +kernel
theorem dX12_rows_179 : decode cX12_rows 179 = .ok (.iconst 5, 1) := by decide +kernel
theorem dX12_rows_180 : decode cX12_rows 180 = .ok (.iadd, 1) := by decide +kernel
theorem dX12_rows_181 : decode cX12_rows 181 = .ok (.aload_n 0, 1) := by decide +kernel
theorem dX12_rows_182 : decode cX12_rows 182 = .ok (.getfield 135, 3) := by decide +kernel
theorem dX12_rows_185 : decode cX12_rows 185 = .ok (.iastore, 1) := by decide +kernel
theorem dX12_rows_186 : decode cX12_rows 186 = .ok (.aload_n 0, 1) := by decide +kernel
theorem dX12_rows_187 : decode cX12_rows 187 = .ok (.dup, 1) := by decide +kernel
theorem dX12_rows_188 : decode cX12_rows 188 = .ok (.getfield 180, 3) := by decide +kernel
theorem dX12_rows_191 : decode cX12_rows 191 = .ok (.iconst 1, 1) := by decide +kernel
theorem dX12_rows_192 : decode cX12_rows 192 = .ok (.iadd, 1) := by decide +kernel
theorem dX12_rows_193 : decode cX12_rows 193 = .ok (.putfield 180, 3) := by decide +kernel
theorem dX12_rows_196 : decode cX12_rows 196 = .ok (.iinc 4 1, 3) := by decide +kernel
theorem dX12_rows_199 : decode cX12_rows 199 = .ok (.goto (-142), 3) := by decide +kernel
theorem dX12_rows_102 : decode cX12_rows 102 = .ok (.aload_n 0, 1) := by decide +kernel
theorem dX12_rows_103 : decode cX12_rows 103 = .ok (.getfield 36, 3) := by decide +kernel
theorem dX12_rows_106 : decode cX12_rows 106 = .ok (.iload 5, 2) := by decide +kernel
theorem dX12_rows_108 : decode cX12_rows 108 = .ok (.iconst 1, 1) := by decide +kernel
theorem dX12_rows_109 : decode cX12_rows 109 = .ok (.iadd, 1) := by decide +kernel
theorem dX12_rows_110 : decode cX12_rows 110 = .ok (.iload 6, 2) := by decide +kernel
theorem dX12_rows_112 : decode cX12_rows 112 = .ok (.iadd, 1) := by decide +kernel
theorem dX12_rows_113 : decode cX12_rows 113 = .ok (.iload 6, 2) := by decide +kernel
theorem dX12_rows_115 : decode cX12_rows 115 = .ok (.iload_n 2, 1) := by decide +kernel
theorem dX12_rows_116 : decode cX12_rows 116 = .ok (.if_icmp .ge 27, 3) := by decide +kernel
theorem dX12_rows_143 : decode cX12_rows 143 = .ok (.iconst (-1), 1) := by decide +kernel
theorem dX12_rows_144 : decode cX12_rows 144 = .ok (.iastore, 1) := by decide +kernel
theorem dX12_rows_145 : decode cX12_rows 145 = .ok (.iinc 6 1, 3) := by decide +kernel
theorem dX12_rows_148 : decode cX12_rows 148 = .ok (.goto (-52), 3) := by decide +kernel
theorem dX12_rows_119 : decode cX12_rows 119 = .ok (.iload 4, 2) := by decide +kernel
theorem dX12_rows_121 : decode cX12_rows 121 = .ok (.aload_n 0, 1) := by decide +kernel
theorem dX12_rows_122 : decode cX12_rows 122 = .ok (.getfield 161, 3) := by decide +kernel
theorem dX12_rows_125 : decode cX12_rows 125 = .ok (.iload_n 2, 1) := by decide +kernel
theorem dX12_rows_126 : decode cX12_rows 126 = .ok (.iconst 1, 1) := by decide +kernel
theorem dX12_rows_127 : decode cX12_rows 127 = .ok (.isub, 1) := by decide +kernel
theorem dX12_rows_128 : decode cX12_rows 128 = .ok (.iload 6, 2) := by decide +kernel
theorem dX12_rows_130 : decode cX12_rows 130 = .ok (.isub, 1) := by decide +kernel
theorem dX12_rows_131 : decode cX12_rows 131 = .ok (.invokestatic 183, 3) := by decide +kernel
theorem dX12_rows_134 : decode cX12_rows 134 = .ok (.idiv, 1) := by decide +kernel
theorem dX12_rows_135 : decode cX12_rows 135 = .ok (.aload_n 0, 1) := by decide +kernel
theorem dX12_rows_136 : decode cX12_rows 136 = .ok (.getfield 161, 3) := by decide +kernel
theorem dX12_rows_139 : decode cX12_rows 139 = .ok (.irem, 1) := by decide +kernel
theorem dX12_rows_140 : decode cX12_rows 140 = .ok (.goto 4, 3) := by decide +kernel
theorem dX12_rows_73 : decode cX12_rows 73 = .ok (.goto 123, 3) := by decide +kernel
theorem dX12_rows_41 : decode cX12_rows 41 = .ok (.iconst 0, 1) := by decide +kernel
theorem dX12_rows_42 : decode cX12_rows 42 = .ok (.goto 11, 3) := by decide +kernel
theorem dX12_row_0 : decode cX12_row 0 = .ok (.aload_n 0, 1) := by decide +kernel
theorem dX12_row_1 : decode cX12_row 1 = .ok (.iconst 0, 1) := by decide +kernel
theorem dX12_row_2 : decode cX12_row 2 = .ok (.putfield 85, 3) := by decide +kernel
theorem dX12_row_5 : decode cX12_row 5 = .ok (.iload_n 1, 1) := by decide +kernel
theorem dX12_row_6 : decode cX12_row 6 = .ok (.ifCond .lt 35, 3) := by decide +kernel
theorem dX12_row_41 : decode cX12_row 41 = .ok (.iconst (-1), 1) := by decide +kernel
theorem dX12_row_42 : decode cX12_row 42 = .ok (.ireturn, 1) := by decide +kernel
theorem dX12_row_9 : decode cX12_row 9 = .ok (.iload_n 1, 1) := by decide +kernel
theorem dX12_row_10 : decode cX12_row 10 = .ok (.aload_n 0, 1) := by decide +kernel
theorem dX12_row_11 : decode cX12_row 11 = .ok (.getfield 180, 3) := by decide +kernel
theorem dX12_row_14 : decode cX12_row 14 = .ok (.if_icmp .ge 27, 3) := by decide +kernel
theorem dX12_row_17 : decode cX12_row 17 = .ok (.iload_n 2, 1) := by decide +kernel
theorem dX12_row_18 : decode cX12_row 18 = .ok (.ifCond .lt 23, 3) := by decide +kernel
theorem dX12_row_21 : decode cX12_row 21 = .ok (.iload_n 2, 1) := by decide +kernel
theorem dX12_row_22 : decode cX12_row 22 = .ok (.bipush 6, 2) := by decide +kernel
theorem dX12_row_24 : decode cX12_row 24 = .ok (.if_icmp .ge 17, 3) := by decide +kernel
theorem dX12_row_27 : decode cX12_row 27 = .ok (.aload_n 0, 1) := by decide +kernel
theorem dX12_row_28 : decode cX12_row 28 = .ok (.getfield 36, 3) := by decide +kernel
theorem dX12_row_31 : decode cX12_row 31 = .ok (.bipush 6, 2) := by decide +kernel
theorem dX12_row_33 : decode cX12_row 33 = .ok (.iload_n 1, 1) := by decide +kernel
theorem dX12_row_34 : decode cX12_row 34 = .ok (.imul, 1) := by decide +kernel
theorem dX12_row_35 : decode cX12_row 35 = .ok (.iload_n 2, 1) := by decide +kernel
theorem dX12_row_36 : decode cX12_row 36 = .ok (.iadd, 1) := by decide +kernel
theorem dX12_row_37 : decode cX12_row 37 = .ok (.iaload, 1) := by decide +kernel
theorem dX12_row_38 : decode cX12_row 38 = .ok (.goto 4, 3) := by decide +kernel
theorem dX12_mend_0 : decode cX12_mend 0 = .ok (.aload_n 0, 1) := by decide +kernel
theorem dX12_mend_1 : decode cX12_mend 1 = .ok (.iconst 0, 1) := by decide +kernel
theorem dX12_mend_2 : decode cX12_mend 2 = .ok (.putfield 85, 3) := by decide +kernel
theorem dX12_mend_5 : decode cX12_mend 5 = .ok (.aload_n 0, 1) := by decide +kernel
theorem dX12_mend_6 : decode cX12_mend 6 = .ok (.iconst (-1), 1) := by decide +kernel
theorem dX12_mend_7 : decode cX12_mend 7 = .ok (.putfield 55, 3) := by decide +kernel
theorem dX12_mend_10 : decode cX12_mend 10 = .ok (.iload_n 1, 1) := by decide +kernel
theorem dX12_mend_11 : decode cX12_mend 11 = .ok (.iconst 1, 1) := by decide +kernel
theorem dX12_mend_12 : decode cX12_mend 12 = .ok (.if_icmp .lt 19, 3) := by decide +kernel
theorem dX12_mend_31 : decode cX12_mend 31 = .ok (.iconst (-1), 1) := by decide +kernel
theorem dX12_mend_32 : decode cX12_mend 32 = .ok (.ireturn, 1) := by decide +kernel
theorem dX12_mend_15 : decode cX12_mend 15 = .ok (.iload_n 1, 1) := by decide +kernel
theorem dX12_mend_16 : decode cX12_mend 16 = .ok (.iconst 3, 1) := by decide +kernel
theorem dX12_mend_17 : decode cX12_mend 17 = .ok (.if_icmp .gt 14, 3) := by decide +kernel
theorem dX12_mend_20 : decode cX12_mend 20 = .ok (.iload_n 2, 1) := by decide +kernel
theorem dX12_mend_21 : decode cX12_mend 21 = .ok (.iconst 1, 1) := by decide +kernel
theorem dX12_mend_22 : decode cX12_mend 22 = .ok (.if_icmp .lt 9, 3) := by decide +kernel
theorem dX12_mend_25 : decode cX12_mend 25 = .ok (.iload_n 2, 1) := by decide +kernel
theorem dX12_mend_26 : decode cX12_mend 26 = .ok (.ldc 198, 2) := by decide +kernel
theorem dX12_mend_28 : decode cX12_mend 28 = .ok (.if_icmp .le 5, 3) := by decide +kernel
theorem dX12_mend_33 : decode cX12_mend 33 = .ok (.iconst (-1), 1) := by decide +kernel
theorem dX12_mend_34 : decode cX12_mend 34 = .ok (.istore_n 3, 1) := by decide +kernel
theorem dX12_mend_35 : decode cX12_mend 35 = .ok (.iconst 0, 1) := by decide +kernel
theorem dX12_mend_36 : decode cX12_mend 36 = .ok (.istore 4, 2) := by decide +kernel
theorem dX12_mend_38 : decode cX12_mend 38 = .ok (.iconst 0, 1) := by decide +kernel
theorem dX12_mend_39 : decode cX12_mend 39 = .ok (.istore 5, 2) := by decide +kernel
theorem dX12_mend_41 : decode cX12_mend 41 = .ok (.iconst 0, 1) := by decide +kernel
theorem dX12_mend_42 : decode cX12_mend 42 = .ok (.istore 6, 2) := by decide +kernel
theorem dX12_mend_44 : decode cX12_mend 44 = .ok (.iconst 0, 1) := by decide +kernel
theorem dX12_mend_45 : decode cX12_mend 45 = .ok (.istore 7, 2) := by decide +kernel
theorem dX12_mend_47 : decode cX12_mend 47 = .ok (.iconst 1, 1) := by decide +kernel
theorem dX12_mend_48 : decode cX12_mend 48 = .ok (.istore 8, 2) := by decide +kernel
theorem dX12_mend_50 : decode cX12_mend 50 = .ok (.iload 8, 2) := by decide +kernel
theorem dX12_mend_52 : decode cX12_mend 52 = .ok (.iload_n 1, 1) := by decide +kernel
theorem dX12_mend_53 : decode cX12_mend 53 = .ok (.if_icmp .gt 106, 3) := by decide +kernel
theorem dX12_mend_159 : decode cX12_mend 159 = .ok (.iload_n 3, 1) := by decide +kernel
theorem dX12_mend_160 : decode cX12_mend 160 = .ok (.iconst (-1), 1) := by decide +kernel
theorem dX12_mend_161 : decode cX12_mend 161 = .ok (.if_icmp .eq 25, 3) := by decide +kernel
theorem dX12_mend_186 : decode cX12_mend 186 = .ok (.iconst (-1), 1) := by decide +kernel
theorem dX12_mend_187 : decode cX12_mend 187 = .ok (.ireturn, 1) := by decide +kernel
theorem dX12_mend_164 : decode cX12_mend 164 = .ok (.aload_n 0, 1) := by decide +kernel
theorem dX12_mend_165 : decode cX12_mend 165 = .ok (.aload_n 0, 1) := by decide +kernel
theorem dX12_mend_166 : decode cX12_mend 166 = .ok (.getfield 16, 3) := by decide +kernel
theorem dX12_mend_169 : decode cX12_mend 169 = .ok (.iconst 0, 1) := by decide +kernel
theorem dX12_mend_170 : decode cX12_mend 170 = .ok (.aload_n 0, 1) := by decide +kernel
theorem dX12_mend_171 : decode cX12_mend 171 = .ok (.getfield 13, 3) := by decide +kernel
theorem dX12_mend_174 : decode cX12_mend 174 = .ok (.iconst 0, 1) := by decide +kernel
theorem dX12_mend_175 : decode cX12_mend 175 = .ok (.iaload, 1) := by decide +kernel
set_option maxRecDepth 20000 in
theorem ggX12_mend_X12_costOf_ : GoodIn wsX12_mend wsX12_costOf_ := goodIn_r _ [77, 78, 79, 80, 11, 81, 82, 83, 84, 85, 86, 87, 88, 96, 97, 98, 99, 100, 101, 102, 103, 104, 105, 106, 107, 108, 109, 110, 111, 112, 113, 114, 115, 116, 117, 118, 119, 120, 121, 122, 123, 124, 125, 126, 127, 128, 129, 130, 131, 132, 133, 134, 135] rfl (by decide +kernel)
set_option maxRecDepth 20000 in
theorem gX12_mend_X12_costOf_ : GoodIn wsX12_mend (wsV RX12 189 RX12 yX12_costOf_ wsX12_costOf_) := goodIn_app (goodIn_r _ [74, 75, 76, 11] rfl (by decide +kernel)) ggX12_mend_X12_costOf_
theorem dX12_mend_176 : decode cX12_mend 176 = .ok (.invokevirtual 189, 3) := by decide +kernel
theorem dX12_mend_179 : decode cX12_mend 179 = .ok (.iload 6, 2) := by decide +kernel
theorem dX12_mend_181 : decode cX12_mend 181 = .ok (.isub, 1) := by decide +kernel
theorem dX12_mend_182 : decode cX12_mend 182 = .ok (.iload_n 2, 1) := by decide +kernel
theorem dX12_mend_183 : decode cX12_mend 183 = .ok (.if_icmp .ge 5, 3) := by decide +kernel
theorem dX12_mend_188 : decode cX12_mend 188 = .ok (.aload_n 0, 1) := by decide +kernel
theorem dX12_mend_189 : decode cX12_mend 189 = .ok (.iload 5, 2) := by decide +kernel
theorem dX12_mend_191 : decode cX12_mend 191 = .ok (.iload 4, 2) := by decide +kernel
set_option maxRecDepth 20000 in
theorem ggX12_mend_X12_makes : GoodIn wsX12_mend wsX12_makes := goodIn_r _ [16, 4, 17, 18, 19, 20, 21, 11, 22, 8, 6, 5, 7, 23, 24, 25, 26, 27, 28, 29, 30, 31, 32, 33, 34, 35, 36, 37, 38, 39, 40, 41, 42, 43, 44, 45, 46, 47, 48, 49, 50, 51, 52, 53, 54, 55, 56, 57, 58, 59, 60, 61, 62, 63, 64, 65, 66, 67, 68, 69, 70, 71, 72, 73, 96, 97, 98, 99, 100, 101, 102, 103, 104, 105, 106, 107, 108, 109, 110, 111, 112, 113, 114, 115, 116, 117, 118, 119, 120, 121, 122, 123, 124, 125, 126, 127, 128, 129, 130, 131, 132, 133, 134, 135] rfl (by decide +kernel)
set_option maxRecDepth 20000 in
theorem gX12_mend_X12_makes : GoodIn wsX12_mend (wsV RX12 186 RX12 yX12_makes wsX12_makes) := goodIn_app (goodIn_r _ [13, 14, 15, 11] rfl (by decide +kernel)) ggX12_mend_X12_makes
theorem dX12_mend_193 : decode cX12_mend 193 = .ok (.invokevirtual 186, 3) := by decide +kernel
theorem dX12_mend_196 : decode cX12_mend 196 = .ok (.pop, 1) := by decide +kernel
theorem dX12_mend_197 : decode cX12_mend 197 = .ok (.aload_n 0, 1) := by decide +kernel
theorem dX12_mend_198 : decode cX12_mend 198 = .ok (.aload_n 0, 1) := by decide +kernel
theorem dX12_mend_199 : decode cX12_mend 199 = .ok (.getfield 64, 3) := by decide +kernel
theorem dX12_mend_202 : decode cX12_mend 202 = .ok (.aload_n 0, 1) := by decide +kernel
theorem dX12_mend_203 : decode cX12_mend 203 = .ok (.getfield 135, 3) := by decide +kernel
set_option maxRecDepth 20000 in
theorem ggX12_mend_X12_become : GoodIn wsX12_mend wsX12_become := goodIn_r _ [92, 93, 94, 8, 7, 95, 96, 97, 98, 99, 100, 101, 102, 103, 104, 105, 106, 107, 108, 109, 110, 111, 112, 113, 114, 115, 116, 117, 118, 119, 120, 121, 122, 123, 124, 125, 126, 127, 128, 129, 130, 131, 132, 133, 134, 135] rfl (by decide +kernel)
set_option maxRecDepth 20000 in
theorem gX12_mend_X12_become : GoodIn wsX12_mend (wsV RX12 154 RX12 yX12_become wsX12_become) := goodIn_app (goodIn_r _ [89, 90, 91, 11] rfl (by decide +kernel)) ggX12_mend_X12_become
theorem dX12_mend_206 : decode cX12_mend 206 = .ok (.invokevirtual 154, 3) := by decide +kernel
theorem dX12_mend_209 : decode cX12_mend 209 = .ok (.iload_n 3, 1) := by decide +kernel
theorem dX12_mend_210 : decode cX12_mend 210 = .ok (.ireturn, 1) := by decide +kernel
theorem dX12_mend_56 : decode cX12_mend 56 = .ok (.aload_n 0, 1) := by decide +kernel
theorem dX12_mend_57 : decode cX12_mend 57 = .ok (.getfield 161, 3) := by decide +kernel
theorem dX12_mend_60 : decode cX12_mend 60 = .ok (.ifCond .ne 7, 3) := by decide +kernel
theorem dX12_mend_67 : decode cX12_mend 67 = .ok (.aload_n 0, 1) := by decide +kernel
theorem dX12_mend_68 : decode cX12_mend 68 = .ok (.getfield 161, 3) := by decide +kernel
theorem dX12_mend_71 : decode cX12_mend 71 = .ok (.iload 8, 2) := by decide +kernel
set_option maxRecDepth 20000 in
theorem ggX12_mend_X12_power : GoodIn wsX12_mend wsX12_power := goodIn_r _ [12] rfl (by decide +kernel)
set_option maxRecDepth 20000 in
theorem gX12_mend_X12_power : GoodIn wsX12_mend (va_wsS RX12 183 yX12_power wsX12_power) := goodIn_app (goodIn_r _ [9, 10, 11] rfl (by decide +kernel)) ggX12_mend_X12_power
theorem dX12_mend_73 : decode cX12_mend 73 = .ok (.invokestatic 183, 3) := by decide +kernel
theorem dX12_mend_76 : decode cX12_mend 76 = .ok (.istore 9, 2) := by decide +kernel
theorem dX12_mend_78 : decode cX12_mend 78 = .ok (.iconst 0, 1) := by decide +kernel
theorem dX12_mend_79 : decode cX12_mend 79 = .ok (.istore 10, 2) := by decide +kernel
theorem dX12_mend_81 : decode cX12_mend 81 = .ok (.iload 10, 2) := by decide +kernel
theorem dX12_mend_83 : decode cX12_mend 83 = .ok (.iload 9, 2) := by decide +kernel
theorem dX12_mend_85 : decode cX12_mend 85 = .ok (.if_icmp .ge 68, 3) := by decide +kernel
theorem dX12_mend_153 : decode cX12_mend 153 = .ok (.iinc 8 1, 3) := by decide +kernel
theorem dX12_mend_156 : decode cX12_mend 156 = .ok (.goto (-106), 3) := by decide +kernel
theorem dX12_mend_88 : decode cX12_mend 88 = .ok (.aload_n 0, 1) := by decide +kernel
theorem dX12_mend_89 : decode cX12_mend 89 = .ok (.iload 10, 2) := by decide +kernel
theorem dX12_mend_91 : decode cX12_mend 91 = .ok (.iload 8, 2) := by decide +kernel
theorem dX12_mend_93 : decode cX12_mend 93 = .ok (.invokevirtual 186, 3) := by decide +kernel
theorem dX12_mend_96 : decode cX12_mend 96 = .ok (.ifCond .ne 6, 3) := by decide +kernel
theorem dX12_mend_102 : decode cX12_mend 102 = .ok (.aload_n 0, 1) := by decide +kernel
theorem dX12_mend_103 : decode cX12_mend 103 = .ok (.aload_n 0, 1) := by decide +kernel
theorem dX12_mend_104 : decode cX12_mend 104 = .ok (.getfield 64, 3) := by decide +kernel
theorem dX12_mend_107 : decode cX12_mend 107 = .ok (.iconst 0, 1) := by decide +kernel
theorem dX12_mend_108 : decode cX12_mend 108 = .ok (.aload_n 0, 1) := by decide +kernel
theorem dX12_mend_109 : decode cX12_mend 109 = .ok (.getfield 135, 3) := by decide +kernel
theorem dX12_mend_112 : decode cX12_mend 112 = .ok (.invokevirtual 189, 3) := by decide +kernel
theorem dX12_mend_115 : decode cX12_mend 115 = .ok (.istore 11, 2) := by decide +kernel
theorem dX12_mend_117 : decode cX12_mend 117 = .ok (.iload_n 3, 1) := by decide +kernel
theorem dX12_mend_118 : decode cX12_mend 118 = .ok (.iconst (-1), 1) := by decide +kernel
theorem dX12_mend_119 : decode cX12_mend 119 = .ok (.if_icmp .eq 10, 3) := by decide +kernel
theorem dX12_mend_129 : decode cX12_mend 129 = .ok (.iload 7, 2) := by decide +kernel
theorem dX12_mend_131 : decode cX12_mend 131 = .ok (.istore_n 3, 1) := by decide +kernel
theorem dX12_mend_132 : decode cX12_mend 132 = .ok (.iload 8, 2) := by decide +kernel
theorem dX12_mend_134 : decode cX12_mend 134 = .ok (.istore 4, 2) := by decide +kernel
theorem dX12_mend_136 : decode cX12_mend 136 = .ok (.iload 10, 2) := by decide +kernel
theorem dX12_mend_138 : decode cX12_mend 138 = .ok (.istore 5, 2) := by decide +kernel
theorem dX12_mend_140 : decode cX12_mend 140 = .ok (.iload 11, 2) := by decide +kernel
theorem dX12_mend_142 : decode cX12_mend 142 = .ok (.istore 6, 2) := by decide +kernel
theorem dX12_mend_144 : decode cX12_mend 144 = .ok (.iinc 7 1, 3) := by decide +kernel
theorem dX12_mend_147 : decode cX12_mend 147 = .ok (.iinc 10 1, 3) := by decide +kernel
theorem dX12_mend_150 : decode cX12_mend 150 = .ok (.goto (-69), 3) := by decide +kernel
theorem dX12_mend_122 : decode cX12_mend 122 = .ok (.iload 11, 2) := by decide +kernel
theorem dX12_mend_124 : decode cX12_mend 124 = .ok (.iload 6, 2) := by decide +kernel
theorem dX12_mend_126 : decode cX12_mend 126 = .ok (.if_icmp .ge 18, 3) := by decide +kernel
theorem dX12_mend_99 : decode cX12_mend 99 = .ok (.goto 48, 3) := by decide +kernel
theorem dX12_mend_63 : decode cX12_mend 63 = .ok (.iconst 0, 1) := by decide +kernel
theorem dX12_mend_64 : decode cX12_mend 64 = .ok (.goto 12, 3) := by decide +kernel
theorem dX12_takeSpan_0 : decode cX12_takeSpan 0 = .ok (.aload_n 0, 1) := by decide +kernel
theorem dX12_takeSpan_1 : decode cX12_takeSpan 1 = .ok (.iload_n 2, 1) := by decide +kernel
theorem dX12_takeSpan_2 : decode cX12_takeSpan 2 = .ok (.iload_n 1, 1) := by decide +kernel
theorem dX12_takeSpan_3 : decode cX12_takeSpan 3 = .ok (.isub, 1) := by decide +kernel
theorem dX12_takeSpan_4 : decode cX12_takeSpan 4 = .ok (.putfield 135, 3) := by decide +kernel
theorem dX12_takeSpan_7 : decode cX12_takeSpan 7 = .ok (.iload_n 1, 1) := by decide +kernel
theorem dX12_takeSpan_8 : decode cX12_takeSpan 8 = .ok (.istore 4, 2) := by decide +kernel
theorem dX12_takeSpan_10 : decode cX12_takeSpan 10 = .ok (.iload 4, 2) := by decide +kernel
theorem dX12_takeSpan_12 : decode cX12_takeSpan 12 = .ok (.iload_n 2, 1) := by decide +kernel
theorem dX12_takeSpan_13 : decode cX12_takeSpan 13 = .ok (.if_icmp .ge 25, 3) := by decide +kernel
theorem dX12_takeSpan_38 : decode cX12_takeSpan 38 = .ok (.iload_n 3, 1) := by decide +kernel
theorem dX12_takeSpan_39 : decode cX12_takeSpan 39 = .ok (.iconst (-1), 1) := by decide +kernel
theorem dX12_takeSpan_40 : decode cX12_takeSpan 40 = .ok (.if_icmp .eq 22, 3) := by decide +kernel
theorem dX12_takeSpan_62 : decode cX12_takeSpan 62 = .ok (.iconst 1, 1) := by decide +kernel
theorem dX12_takeSpan_63 : decode cX12_takeSpan 63 = .ok (.goto 4, 3) := by decide +kernel
theorem dX12_takeSpan_67 : decode cX12_takeSpan 67 = .ok (.ireturn, 1) := by decide +kernel
theorem dX12_takeSpan_43 : decode cX12_takeSpan 43 = .ok (.aload_n 0, 1) := by decide +kernel
theorem dX12_takeSpan_44 : decode cX12_takeSpan 44 = .ok (.aload_n 0, 1) := by decide +kernel
theorem dX12_takeSpan_45 : decode cX12_takeSpan 45 = .ok (.getfield 30, 3) := by decide +kernel
theorem dX12_takeSpan_48 : decode cX12_takeSpan 48 = .ok (.iload_n 3, 1) := by decide +kernel
theorem dX12_takeSpan_49 : decode cX12_takeSpan 49 = .ok (.iaload, 1) := by decide +kernel
theorem dX12_takeSpan_50 : decode cX12_takeSpan 50 = .ok (.aload_n 0, 1) := by decide +kernel
theorem dX12_takeSpan_51 : decode cX12_takeSpan 51 = .ok (.getfield 33, 3) := by decide +kernel
theorem dX12_takeSpan_54 : decode cX12_takeSpan 54 = .ok (.iload_n 3, 1) := by decide +kernel
theorem dX12_takeSpan_55 : decode cX12_takeSpan 55 = .ok (.iaload, 1) := by decide +kernel
set_option maxRecDepth 20000 in
theorem ggX12_takeSpan_X12_undoes : GoodIn wsX12_takeSpan wsX12_undoes := goodIn_r _ [10, 2, 1, 11, 12, 13, 14, 15, 16, 17, 9, 18, 19, 20, 21, 22, 23, 24, 25, 26, 27, 28, 29, 30, 31, 32, 33, 34, 35, 36, 37, 38, 39, 40, 41, 42, 43, 44, 45, 46, 47, 48, 49, 50, 51, 52, 53, 54, 55, 56, 57, 58, 59, 60, 61, 62, 63, 64, 65, 66, 67, 68, 69, 70, 71, 72, 73, 74, 75, 76, 77, 78, 79, 80, 81, 82, 83, 84, 85, 86, 87, 88, 89, 90, 91, 92, 93, 94, 95, 96, 97] rfl (by decide +kernel)
set_option maxRecDepth 20000 in
theorem gX12_takeSpan_X12_undoes : GoodIn wsX12_takeSpan (wsV RX12 174 RX12 yX12_undoes wsX12_undoes) := goodIn_app (goodIn_r _ [6, 7, 8, 9] rfl (by decide +kernel)) ggX12_takeSpan_X12_undoes
theorem dX12_takeSpan_56 : decode cX12_takeSpan 56 = .ok (.invokevirtual 174, 3) := by decide +kernel
theorem dX12_takeSpan_59 : decode cX12_takeSpan 59 = .ok (.ifCond .eq 7, 3) := by decide +kernel
theorem dX12_takeSpan_66 : decode cX12_takeSpan 66 = .ok (.iconst 0, 1) := by decide +kernel
theorem dX12_takeSpan_16 : decode cX12_takeSpan 16 = .ok (.aload_n 0, 1) := by decide +kernel
theorem dX12_takeSpan_17 : decode cX12_takeSpan 17 = .ok (.getfield 64, 3) := by decide +kernel
theorem dX12_takeSpan_20 : decode cX12_takeSpan 20 = .ok (.iload 4, 2) := by decide +kernel
theorem dX12_takeSpan_22 : decode cX12_takeSpan 22 = .ok (.iload_n 1, 1) := by decide +kernel
theorem dX12_takeSpan_23 : decode cX12_takeSpan 23 = .ok (.isub, 1) := by decide +kernel
theorem dX12_takeSpan_24 : decode cX12_takeSpan 24 = .ok (.aload_n 0, 1) := by decide +kernel
theorem dX12_takeSpan_25 : decode cX12_takeSpan 25 = .ok (.getfield 16, 3) := by decide +kernel
theorem dX12_takeSpan_28 : decode cX12_takeSpan 28 = .ok (.iload 4, 2) := by decide +kernel
theorem dX12_takeSpan_30 : decode cX12_takeSpan 30 = .ok (.iaload, 1) := by decide +kernel
theorem dX12_takeSpan_31 : decode cX12_takeSpan 31 = .ok (.iastore, 1) := by decide +kernel
theorem dX12_takeSpan_32 : decode cX12_takeSpan 32 = .ok (.iinc 4 1, 3) := by decide +kernel
theorem dX12_takeSpan_35 : decode cX12_takeSpan 35 = .ok (.goto (-25), 3) := by decide +kernel
theorem dX12_parts_0 : decode cX12_parts 0 = .ok (.aload_n 0, 1) := by decide +kernel
theorem dX12_parts_1 : decode cX12_parts 1 = .ok (.iconst 0, 1) := by decide +kernel
theorem dX12_parts_2 : decode cX12_parts 2 = .ok (.putfield 85, 3) := by decide +kernel
theorem dX12_parts_5 : decode cX12_parts 5 = .ok (.aload_n 0, 1) := by decide +kernel
theorem dX12_parts_6 : decode cX12_parts 6 = .ok (.iconst (-1), 1) := by decide +kernel
theorem dX12_parts_7 : decode cX12_parts 7 = .ok (.putfield 55, 3) := by decide +kernel
theorem dX12_parts_10 : decode cX12_parts 10 = .ok (.aload_n 0, 1) := by decide +kernel
theorem dX12_parts_11 : decode cX12_parts 11 = .ok (.getfield 13, 3) := by decide +kernel
theorem dX12_parts_14 : decode cX12_parts 14 = .ok (.iconst 0, 1) := by decide +kernel
theorem dX12_parts_15 : decode cX12_parts 15 = .ok (.iaload, 1) := by decide +kernel
theorem dX12_parts_16 : decode cX12_parts 16 = .ok (.istore_n 2, 1) := by decide +kernel
theorem dX12_parts_17 : decode cX12_parts 17 = .ok (.iload_n 2, 1) := by decide +kernel
theorem dX12_parts_18 : decode cX12_parts 18 = .ok (.iconst 1, 1) := by decide +kernel
theorem dX12_parts_19 : decode cX12_parts 19 = .ok (.if_icmp .lt 20, 3) := by decide +kernel
theorem dX12_parts_39 : decode cX12_parts 39 = .ok (.iconst (-1), 1) := by decide +kernel
theorem dX12_parts_40 : decode cX12_parts 40 = .ok (.ireturn, 1) := by decide +kernel
theorem dX12_parts_22 : decode cX12_parts 22 = .ok (.iload_n 2, 1) := by decide +kernel
theorem dX12_parts_23 : decode cX12_parts 23 = .ok (.bipush 60, 2) := by decide +kernel
theorem dX12_parts_25 : decode cX12_parts 25 = .ok (.if_icmp .gt 14, 3) := by decide +kernel
theorem dX12_parts_28 : decode cX12_parts 28 = .ok (.iload_n 1, 1) := by decide +kernel
theorem dX12_parts_29 : decode cX12_parts 29 = .ok (.ifCond .lt 10, 3) := by decide +kernel
theorem dX12_parts_32 : decode cX12_parts 32 = .ok (.iload_n 1, 1) := by decide +kernel
theorem dX12_parts_33 : decode cX12_parts 33 = .ok (.sipush 1000, 3) := by decide +kernel
theorem dX12_parts_36 : decode cX12_parts 36 = .ok (.if_icmp .le 5, 3) := by decide +kernel
theorem dX12_parts_41 : decode cX12_parts 41 = .ok (.iload_n 2, 1) := by decide +kernel
theorem dX12_parts_42 : decode cX12_parts 42 = .ok (.iconst 1, 1) := by decide +kernel
theorem dX12_parts_43 : decode cX12_parts 43 = .ok (.isub, 1) := by decide +kernel
theorem dX12_parts_44 : decode cX12_parts 44 = .ok (.istore_n 3, 1) := by decide +kernel
theorem dX12_parts_45 : decode cX12_parts 45 = .ok (.iload_n 3, 1) := by decide +kernel
theorem dX12_parts_46 : decode cX12_parts 46 = .ok (.ifCond .lt 197, 3) := by decide +kernel
theorem dX12_parts_243 : decode cX12_parts 243 = .ok (.iconst 0, 1) := by decide +kernel
theorem dX12_parts_244 : decode cX12_parts 244 = .ok (.istore_n 3, 1) := by decide +kernel
theorem dX12_parts_245 : decode cX12_parts 245 = .ok (.iconst 0, 1) := by decide +kernel
theorem dX12_parts_246 : decode cX12_parts 246 = .ok (.istore 4, 2) := by decide +kernel
theorem dX12_parts_248 : decode cX12_parts 248 = .ok (.iload 4, 2) := by decide +kernel
theorem dX12_parts_250 : decode cX12_parts 250 = .ok (.iload_n 2, 1) := by decide +kernel
theorem dX12_parts_251 : decode cX12_parts 251 = .ok (.if_icmp .ge 86, 3) := by decide +kernel
theorem dX12_parts_337 : decode cX12_parts 337 = .ok (.aload_n 0, 1) := by decide +kernel
theorem dX12_parts_338 : decode cX12_parts 338 = .ok (.getfield 73, 3) := by decide +kernel
theorem dX12_parts_341 : decode cX12_parts 341 = .ok (.iconst 0, 1) := by decide +kernel
theorem dX12_parts_342 : decode cX12_parts 342 = .ok (.iaload, 1) := by decide +kernel
theorem dX12_parts_343 : decode cX12_parts 343 = .ok (.istore 4, 2) := by decide +kernel
theorem dX12_parts_345 : decode cX12_parts 345 = .ok (.aload_n 0, 1) := by decide +kernel
theorem dX12_parts_346 : decode cX12_parts 346 = .ok (.aload_n 0, 1) := by decide +kernel
theorem dX12_parts_347 : decode cX12_parts 347 = .ok (.getfield 82, 3) := by decide +kernel
theorem dX12_parts_350 : decode cX12_parts 350 = .ok (.iload_n 3, 1) := by decide +kernel
set_option maxRecDepth 20000 in
theorem ggX12_parts_X12_become : GoodIn wsX12_parts wsX12_become := goodIn_r _ [89, 90, 91, 3, 17, 92, 93, 94, 95, 96, 97, 98, 99, 100, 101, 102, 103, 104, 105, 106, 107, 108, 109, 110, 111, 112, 113, 114, 115, 116, 117, 118, 119, 120, 121, 122, 123, 124, 125, 126, 127, 128, 129, 130, 131, 132] rfl (by decide +kernel)
set_option maxRecDepth 20000 in
theorem gX12_parts_X12_become : GoodIn wsX12_parts (wsV RX12 154 RX12 yX12_become wsX12_become) := goodIn_app (goodIn_r _ [86, 87, 88, 15] rfl (by decide +kernel)) ggX12_parts_X12_become
theorem dX12_parts_351 : decode cX12_parts 351 = .ok (.invokevirtual 154, 3) := by decide +kernel
theorem dX12_parts_354 : decode cX12_parts 354 = .ok (.iload 4, 2) := by decide +kernel
theorem dX12_parts_356 : decode cX12_parts 356 = .ok (.ireturn, 1) := by decide +kernel
theorem dX12_parts_254 : decode cX12_parts 254 = .ok (.aload_n 0, 1) := by decide +kernel
theorem dX12_parts_255 : decode cX12_parts 255 = .ok (.iload 4, 2) := by decide +kernel
theorem dX12_parts_257 : decode cX12_parts 257 = .ok (.aload_n 0, 1) := by decide +kernel
theorem dX12_parts_258 : decode cX12_parts 258 = .ok (.getfield 76, 3) := by decide +kernel
theorem dX12_parts_261 : decode cX12_parts 261 = .ok (.iload 4, 2) := by decide +kernel
theorem dX12_parts_263 : decode cX12_parts 263 = .ok (.iaload, 1) := by decide +kernel
theorem dX12_parts_264 : decode cX12_parts 264 = .ok (.aload_n 0, 1) := by decide +kernel
theorem dX12_parts_265 : decode cX12_parts 265 = .ok (.getfield 79, 3) := by decide +kernel
theorem dX12_parts_268 : decode cX12_parts 268 = .ok (.iload 4, 2) := by decide +kernel
theorem dX12_parts_270 : decode cX12_parts 270 = .ok (.iaload, 1) := by decide +kernel
set_option maxRecDepth 20000 in
theorem ggX12_parts_X12_takeSpan : GoodIn wsX12_parts wsX12_takeSpan := goodIn_r _ [16, 7, 6, 17, 18, 19, 20, 21, 22, 15, 23, 24, 25, 26, 27, 28, 29, 30, 31, 32, 33, 34, 35, 36, 37, 38, 39, 40, 41, 42, 43, 44, 45, 46, 47, 48, 49, 50, 51, 52, 53, 54, 55, 56, 57, 58, 59, 60, 61, 62, 63, 64, 65, 66, 67, 68, 69, 70, 93, 94, 95, 96, 97, 98, 99, 100, 101, 102, 103, 104, 105, 106, 107, 108, 109, 110, 111, 112, 113, 114, 115, 116, 117, 118, 119, 120, 121, 122, 123, 124, 125, 126, 127, 128, 129, 130, 131, 132] rfl (by decide +kernel)
set_option maxRecDepth 20000 in
theorem gX12_parts_X12_takeSpan : GoodIn wsX12_parts (wsV RX12 199 RX12 yX12_takeSpan wsX12_takeSpan) := goodIn_app (goodIn_r _ [12, 13, 14, 15] rfl (by decide +kernel)) ggX12_parts_X12_takeSpan
theorem dX12_parts_271 : decode cX12_parts 271 = .ok (.invokevirtual 199, 3) := by decide +kernel
theorem dX12_parts_274 : decode cX12_parts 274 = .ok (.pop, 1) := by decide +kernel
theorem dX12_parts_275 : decode cX12_parts 275 = .ok (.iconst 0, 1) := by decide +kernel
theorem dX12_parts_276 : decode cX12_parts 276 = .ok (.istore 5, 2) := by decide +kernel
theorem dX12_parts_278 : decode cX12_parts 278 = .ok (.iload 5, 2) := by decide +kernel
theorem dX12_parts_280 : decode cX12_parts 280 = .ok (.aload_n 0, 1) := by decide +kernel
theorem dX12_parts_281 : decode cX12_parts 281 = .ok (.getfield 135, 3) := by decide +kernel
theorem dX12_parts_284 : decode cX12_parts 284 = .ok (.if_icmp .ge 25, 3) := by decide +kernel
theorem dX12_parts_309 : decode cX12_parts 309 = .ok (.iload_n 3, 1) := by decide +kernel
theorem dX12_parts_310 : decode cX12_parts 310 = .ok (.aload_n 0, 1) := by decide +kernel
theorem dX12_parts_311 : decode cX12_parts 311 = .ok (.getfield 135, 3) := by decide +kernel
theorem dX12_parts_314 : decode cX12_parts 314 = .ok (.iadd, 1) := by decide +kernel
theorem dX12_parts_315 : decode cX12_parts 315 = .ok (.istore_n 3, 1) := by decide +kernel
theorem dX12_parts_316 : decode cX12_parts 316 = .ok (.iload_n 3, 1) := by decide +kernel
theorem dX12_parts_317 : decode cX12_parts 317 = .ok (.sipush 300, 3) := by decide +kernel
theorem dX12_parts_320 : decode cX12_parts 320 = .ok (.if_icmp .le 5, 3) := by decide +kernel
theorem dX12_parts_325 : decode cX12_parts 325 = .ok (.aload_n 0, 1) := by decide +kernel
theorem dX12_parts_326 : decode cX12_parts 326 = .ok (.getfield 76, 3) := by decide +kernel
theorem dX12_parts_329 : decode cX12_parts 329 = .ok (.iload 4, 2) := by decide +kernel
theorem dX12_parts_331 : decode cX12_parts 331 = .ok (.iaload, 1) := by decide +kernel
theorem dX12_parts_332 : decode cX12_parts 332 = .ok (.istore 4, 2) := by decide +kernel
theorem dX12_parts_334 : decode cX12_parts 334 = .ok (.goto (-86), 3) := by decide +kernel
theorem dX12_parts_323 : decode cX12_parts 323 = .ok (.iconst (-1), 1) := by decide +kernel
theorem dX12_parts_324 : decode cX12_parts 324 = .ok (.ireturn, 1) := by decide +kernel
theorem dX12_parts_287 : decode cX12_parts 287 = .ok (.aload_n 0, 1) := by decide +kernel
theorem dX12_parts_288 : decode cX12_parts 288 = .ok (.getfield 82, 3) := by decide +kernel
theorem dX12_parts_291 : decode cX12_parts 291 = .ok (.iload_n 3, 1) := by decide +kernel
theorem dX12_parts_292 : decode cX12_parts 292 = .ok (.iload 5, 2) := by decide +kernel
theorem dX12_parts_294 : decode cX12_parts 294 = .ok (.iadd, 1) := by decide +kernel
theorem dX12_parts_295 : decode cX12_parts 295 = .ok (.aload_n 0, 1) := by decide +kernel
theorem dX12_parts_296 : decode cX12_parts 296 = .ok (.getfield 64, 3) := by decide +kernel
theorem dX12_parts_299 : decode cX12_parts 299 = .ok (.iload 5, 2) := by decide +kernel
theorem dX12_parts_301 : decode cX12_parts 301 = .ok (.iaload, 1) := by decide +kernel
theorem dX12_parts_302 : decode cX12_parts 302 = .ok (.iastore, 1) := by decide +kernel
theorem dX12_parts_303 : decode cX12_parts 303 = .ok (.iinc 5 1, 3) := by decide +kernel
theorem dX12_parts_306 : decode cX12_parts 306 = .ok (.goto (-28), 3) := by decide +kernel
theorem dX12_parts_49 : decode cX12_parts 49 = .ok (.aload_n 0, 1) := by decide +kernel
theorem dX12_parts_50 : decode cX12_parts 50 = .ok (.getfield 73, 3) := by decide +kernel
theorem dX12_parts_53 : decode cX12_parts 53 = .ok (.iload_n 3, 1) := by decide +kernel
theorem dX12_parts_54 : decode cX12_parts 54 = .ok (.iconst 0, 1) := by decide +kernel
theorem dX12_parts_55 : decode cX12_parts 55 = .ok (.iastore, 1) := by decide +kernel
theorem dX12_parts_56 : decode cX12_parts 56 = .ok (.iload_n 2, 1) := by decide +kernel
theorem dX12_parts_57 : decode cX12_parts 57 = .ok (.istore 4, 2) := by decide +kernel
theorem dX12_parts_59 : decode cX12_parts 59 = .ok (.iload 4, 2) := by decide +kernel
theorem dX12_parts_61 : decode cX12_parts 61 = .ok (.iload_n 3, 1) := by decide +kernel
theorem dX12_parts_62 : decode cX12_parts 62 = .ok (.if_icmp .le 175, 3) := by decide +kernel
theorem dX12_parts_237 : decode cX12_parts 237 = .ok (.iinc 3 (-1), 3) := by decide +kernel
theorem dX12_parts_240 : decode cX12_parts 240 = .ok (.goto (-195), 3) := by decide +kernel
theorem dX12_parts_65 : decode cX12_parts 65 = .ok (.iconst (-1), 1) := by decide +kernel
theorem dX12_parts_66 : decode cX12_parts 66 = .ok (.istore 5, 2) := by decide +kernel
theorem dX12_parts_68 : decode cX12_parts 68 = .ok (.iload 5, 2) := by decide +kernel
theorem dX12_parts_70 : decode cX12_parts 70 = .ok (.aload_n 0, 1) := by decide +kernel
theorem dX12_parts_71 : decode cX12_parts 71 = .ok (.getfield 161, 3) := by decide +kernel
theorem dX12_parts_74 : decode cX12_parts 74 = .ok (.if_icmp .ge 157, 3) := by decide +kernel
theorem dX12_parts_231 : decode cX12_parts 231 = .ok (.iinc 4 (-1), 3) := by decide +kernel
theorem dX12_parts_234 : decode cX12_parts 234 = .ok (.goto (-175), 3) := by decide +kernel
theorem dX12_parts_77 : decode cX12_parts 77 = .ok (.aload_n 0, 1) := by decide +kernel
theorem dX12_parts_78 : decode cX12_parts 78 = .ok (.iload_n 3, 1) := by decide +kernel
theorem dX12_parts_79 : decode cX12_parts 79 = .ok (.iload 4, 2) := by decide +kernel
theorem dX12_parts_81 : decode cX12_parts 81 = .ok (.iload 5, 2) := by decide +kernel
theorem dX12_parts_83 : decode cX12_parts 83 = .ok (.invokevirtual 199, 3) := by decide +kernel
theorem dX12_parts_86 : decode cX12_parts 86 = .ok (.ifCond .ne 6, 3) := by decide +kernel
theorem dX12_parts_92 : decode cX12_parts 92 = .ok (.aload_n 0, 1) := by decide +kernel
theorem dX12_parts_93 : decode cX12_parts 93 = .ok (.aload_n 0, 1) := by decide +kernel
theorem dX12_parts_94 : decode cX12_parts 94 = .ok (.getfield 64, 3) := by decide +kernel
theorem dX12_parts_97 : decode cX12_parts 97 = .ok (.iconst 0, 1) := by decide +kernel
theorem dX12_parts_98 : decode cX12_parts 98 = .ok (.aload_n 0, 1) := by decide +kernel
theorem dX12_parts_99 : decode cX12_parts 99 = .ok (.getfield 135, 3) := by decide +kernel
set_option maxRecDepth 20000 in
theorem ggX12_parts_X12_costOf_ : GoodIn wsX12_parts wsX12_costOf_ := goodIn_r _ [74, 75, 76, 77, 15, 78, 79, 80, 81, 82, 83, 84, 85, 93, 94, 95, 96, 97, 98, 99, 100, 101, 102, 103, 104, 105, 106, 107, 108, 109, 110, 111, 112, 113, 114, 115, 116, 117, 118, 119, 120, 121, 122, 123, 124, 125, 126, 127, 128, 129, 130, 131, 132] rfl (by decide +kernel)
set_option maxRecDepth 20000 in
theorem gX12_parts_X12_costOf_ : GoodIn wsX12_parts (wsV RX12 189 RX12 yX12_costOf_ wsX12_costOf_) := goodIn_app (goodIn_r _ [71, 72, 73, 15] rfl (by decide +kernel)) ggX12_parts_X12_costOf_
theorem dX12_parts_102 : decode cX12_parts 102 = .ok (.invokevirtual 189, 3) := by decide +kernel
theorem dX12_parts_105 : decode cX12_parts 105 = .ok (.iload 4, 2) := by decide +kernel
theorem dX12_parts_107 : decode cX12_parts 107 = .ok (.iload_n 2, 1) := by decide +kernel
theorem dX12_parts_108 : decode cX12_parts 108 = .ok (.if_icmp .ge 15, 3) := by decide +kernel
theorem dX12_parts_123 : decode cX12_parts 123 = .ok (.iconst 0, 1) := by decide +kernel
theorem dX12_parts_124 : decode cX12_parts 124 = .ok (.iadd, 1) := by decide +kernel
theorem dX12_parts_125 : decode cX12_parts 125 = .ok (.istore 6, 2) := by decide +kernel
theorem dX12_parts_127 : decode cX12_parts 127 = .ok (.iconst 1, 1) := by decide +kernel
theorem dX12_parts_128 : decode cX12_parts 128 = .ok (.iload 4, 2) := by decide +kernel
theorem dX12_parts_130 : decode cX12_parts 130 = .ok (.iload_n 2, 1) := by decide +kernel
theorem dX12_parts_131 : decode cX12_parts 131 = .ok (.if_icmp .ge 13, 3) := by decide +kernel
theorem dX12_parts_144 : decode cX12_parts 144 = .ok (.iconst 0, 1) := by decide +kernel
theorem dX12_parts_145 : decode cX12_parts 145 = .ok (.iadd, 1) := by decide +kernel
theorem dX12_parts_146 : decode cX12_parts 146 = .ok (.istore 7, 2) := by decide +kernel
theorem dX12_parts_148 : decode cX12_parts 148 = .ok (.aload_n 0, 1) := by decide +kernel
theorem dX12_parts_149 : decode cX12_parts 149 = .ok (.getfield 73, 3) := by decide +kernel
theorem dX12_parts_152 : decode cX12_parts 152 = .ok (.iload_n 3, 1) := by decide +kernel
theorem dX12_parts_153 : decode cX12_parts 153 = .ok (.iaload, 1) := by decide +kernel
theorem dX12_parts_154 : decode cX12_parts 154 = .ok (.ifCond .le 39, 3) := by decide +kernel
theorem dX12_parts_193 : decode cX12_parts 193 = .ok (.aload_n 0, 1) := by decide +kernel
theorem dX12_parts_194 : decode cX12_parts 194 = .ok (.getfield 70, 3) := by decide +kernel
theorem dX12_parts_197 : decode cX12_parts 197 = .ok (.iload_n 3, 1) := by decide +kernel
theorem dX12_parts_198 : decode cX12_parts 198 = .ok (.iload 6, 2) := by decide +kernel
theorem dX12_parts_200 : decode cX12_parts 200 = .ok (.iastore, 1) := by decide +kernel
theorem dX12_parts_201 : decode cX12_parts 201 = .ok (.aload_n 0, 1) := by decide +kernel
theorem dX12_parts_202 : decode cX12_parts 202 = .ok (.getfield 73, 3) := by decide +kernel
theorem dX12_parts_205 : decode cX12_parts 205 = .ok (.iload_n 3, 1) := by decide +kernel
theorem dX12_parts_206 : decode cX12_parts 206 = .ok (.iload 7, 2) := by decide +kernel
theorem dX12_parts_208 : decode cX12_parts 208 = .ok (.iastore, 1) := by decide +kernel
theorem dX12_parts_209 : decode cX12_parts 209 = .ok (.aload_n 0, 1) := by decide +kernel
theorem dX12_parts_210 : decode cX12_parts 210 = .ok (.getfield 76, 3) := by decide +kernel
theorem dX12_parts_213 : decode cX12_parts 213 = .ok (.iload_n 3, 1) := by decide +kernel
theorem dX12_parts_214 : decode cX12_parts 214 = .ok (.iload 4, 2) := by decide +kernel
theorem dX12_parts_216 : decode cX12_parts 216 = .ok (.iastore, 1) := by decide +kernel
theorem dX12_parts_217 : decode cX12_parts 217 = .ok (.aload_n 0, 1) := by decide +kernel
theorem dX12_parts_218 : decode cX12_parts 218 = .ok (.getfield 79, 3) := by decide +kernel
theorem dX12_parts_221 : decode cX12_parts 221 = .ok (.iload_n 3, 1) := by decide +kernel
theorem dX12_parts_222 : decode cX12_parts 222 = .ok (.iload 5, 2) := by decide +kernel
theorem dX12_parts_224 : decode cX12_parts 224 = .ok (.iastore, 1) := by decide +kernel
theorem dX12_parts_225 : decode cX12_parts 225 = .ok (.iinc 5 1, 3) := by decide +kernel
theorem dX12_parts_228 : decode cX12_parts 228 = .ok (.goto (-160), 3) := by decide +kernel
theorem dX12_parts_157 : decode cX12_parts 157 = .ok (.iload 6, 2) := by decide +kernel
theorem dX12_parts_159 : decode cX12_parts 159 = .ok (.aload_n 0, 1) := by decide +kernel
theorem dX12_parts_160 : decode cX12_parts 160 = .ok (.getfield 70, 3) := by decide +kernel
theorem dX12_parts_163 : decode cX12_parts 163 = .ok (.iload_n 3, 1) := by decide +kernel
theorem dX12_parts_164 : decode cX12_parts 164 = .ok (.iaload, 1) := by decide +kernel
theorem dX12_parts_165 : decode cX12_parts 165 = .ok (.if_icmp .gt 60, 3) := by decide +kernel
theorem dX12_parts_168 : decode cX12_parts 168 = .ok (.iload 6, 2) := by decide +kernel
theorem dX12_parts_170 : decode cX12_parts 170 = .ok (.aload_n 0, 1) := by decide +kernel
theorem dX12_parts_171 : decode cX12_parts 171 = .ok (.getfield 70, 3) := by decide +kernel
theorem dX12_parts_174 : decode cX12_parts 174 = .ok (.iload_n 3, 1) := by decide +kernel
theorem dX12_parts_175 : decode cX12_parts 175 = .ok (.iaload, 1) := by decide +kernel
theorem dX12_parts_176 : decode cX12_parts 176 = .ok (.if_icmp .ne 17, 3) := by decide +kernel
theorem dX12_parts_179 : decode cX12_parts 179 = .ok (.iload 7, 2) := by decide +kernel
theorem dX12_parts_181 : decode cX12_parts 181 = .ok (.aload_n 0, 1) := by decide +kernel
theorem dX12_parts_182 : decode cX12_parts 182 = .ok (.getfield 73, 3) := by decide +kernel
theorem dX12_parts_185 : decode cX12_parts 185 = .ok (.iload_n 3, 1) := by decide +kernel
theorem dX12_parts_186 : decode cX12_parts 186 = .ok (.iaload, 1) := by decide +kernel
theorem dX12_parts_187 : decode cX12_parts 187 = .ok (.if_icmp .lt 6, 3) := by decide +kernel
theorem dX12_parts_190 : decode cX12_parts 190 = .ok (.goto 35, 3) := by decide +kernel
theorem dX12_parts_111 : decode cX12_parts 111 = .ok (.iload_n 1, 1) := by decide +kernel
theorem dX12_parts_112 : decode cX12_parts 112 = .ok (.aload_n 0, 1) := by decide +kernel
theorem dX12_parts_113 : decode cX12_parts 113 = .ok (.getfield 70, 3) := by decide +kernel
theorem dX12_parts_116 : decode cX12_parts 116 = .ok (.iload 4, 2) := by decide +kernel
theorem dX12_parts_118 : decode cX12_parts 118 = .ok (.iaload, 1) := by decide +kernel
theorem dX12_parts_119 : decode cX12_parts 119 = .ok (.iadd, 1) := by decide +kernel
theorem dX12_parts_120 : decode cX12_parts 120 = .ok (.goto 4, 3) := by decide +kernel
theorem dX12_parts_134 : decode cX12_parts 134 = .ok (.aload_n 0, 1) := by decide +kernel
theorem dX12_parts_135 : decode cX12_parts 135 = .ok (.getfield 73, 3) := by decide +kernel
theorem dX12_parts_138 : decode cX12_parts 138 = .ok (.iload 4, 2) := by decide +kernel
theorem dX12_parts_140 : decode cX12_parts 140 = .ok (.iaload, 1) := by decide +kernel
theorem dX12_parts_141 : decode cX12_parts 141 = .ok (.goto 4, 3) := by decide +kernel
theorem dX12_parts_89 : decode cX12_parts 89 = .ok (.goto 136, 3) := by decide +kernel
theorem dX12_writeWith_0 : decode cX12_writeWith 0 = .ok (.aload_n 0, 1) := by decide +kernel
theorem dX12_writeWith_1 : decode cX12_writeWith 1 = .ok (.iconst 0, 1) := by decide +kernel
theorem dX12_writeWith_2 : decode cX12_writeWith 2 = .ok (.putfield 91, 3) := by decide +kernel
theorem dX12_writeWith_5 : decode cX12_writeWith 5 = .ok (.iconst 1, 1) := by decide +kernel
theorem dX12_writeWith_6 : decode cX12_writeWith 6 = .ok (.istore 4, 2) := by decide +kernel
theorem dX12_writeWith_8 : decode cX12_writeWith 8 = .ok (.iconst 0, 1) := by decide +kernel
theorem dX12_writeWith_9 : decode cX12_writeWith 9 = .ok (.istore 5, 2) := by decide +kernel
theorem dX12_writeWith_11 : decode cX12_writeWith 11 = .ok (.iload 5, 2) := by decide +kernel
theorem dX12_writeWith_13 : decode cX12_writeWith 13 = .ok (.aload_n 0, 1) := by decide +kernel
theorem dX12_writeWith_14 : decode cX12_writeWith 14 = .ok (.getfield 13, 3) := by decide +kernel
theorem dX12_writeWith_17 : decode cX12_writeWith 17 = .ok (.iconst 0, 1) := by decide +kernel
theorem dX12_writeWith_18 : decode cX12_writeWith 18 = .ok (.iaload, 1) := by decide +kernel
theorem dX12_writeWith_19 : decode cX12_writeWith 19 = .ok (.if_icmp .ge 64, 3) := by decide +kernel
theorem dX12_writeWith_83 : decode cX12_writeWith 83 = .ok (.iconst 1, 1) := by decide +kernel
theorem dX12_writeWith_84 : decode cX12_writeWith 84 = .ok (.ireturn, 1) := by decide +kernel
theorem dX12_writeWith_22 : decode cX12_writeWith 22 = .ok (.aload_n 0, 1) := by decide +kernel
theorem dX12_writeWith_23 : decode cX12_writeWith 23 = .ok (.getfield 16, 3) := by decide +kernel
theorem dX12_writeWith_26 : decode cX12_writeWith 26 = .ok (.iload 5, 2) := by decide +kernel
theorem dX12_writeWith_28 : decode cX12_writeWith 28 = .ok (.iaload, 1) := by decide +kernel
theorem dX12_writeWith_29 : decode cX12_writeWith 29 = .ok (.ldc 126, 2) := by decide +kernel
theorem dX12_writeWith_31 : decode cX12_writeWith 31 = .ok (.if_icmp .ne 23, 3) := by decide +kernel
theorem dX12_writeWith_54 : decode cX12_writeWith 54 = .ok (.aload_n 0, 1) := by decide +kernel
theorem dX12_writeWith_55 : decode cX12_writeWith 55 = .ok (.iload_n 1, 1) := by decide +kernel
theorem dX12_writeWith_56 : decode cX12_writeWith 56 = .ok (.aload_n 0, 1) := by decide +kernel
theorem dX12_writeWith_57 : decode cX12_writeWith 57 = .ok (.getfield 16, 3) := by decide +kernel
theorem dX12_writeWith_60 : decode cX12_writeWith 60 = .ok (.iload 5, 2) := by decide +kernel
theorem dX12_writeWith_62 : decode cX12_writeWith 62 = .ok (.iaload, 1) := by decide +kernel
set_option maxRecDepth 20000 in
theorem ggX12_writeWith_X12_writeLetter : GoodIn wsX12_writeWith wsX12_writeLetter := goodIn_r _ [15, 16, 17, 6, 7, 8, 9, 10, 11, 1, 18, 19, 20, 21, 22, 23, 24, 25, 26, 27, 28, 29, 30, 31, 32, 33, 34, 35, 36, 37, 38, 39, 40, 41, 42, 43, 44, 45, 46, 47, 48, 49, 50, 51, 52, 53, 54, 55, 56, 57] rfl (by decide +kernel)
set_option maxRecDepth 20000 in
theorem gX12_writeWith_X12_writeLetter : GoodIn wsX12_writeWith (wsV RX12 98 RX12 yX12_writeLetter wsX12_writeLetter) := goodIn_app (goodIn_r _ [12, 13, 14, 9] rfl (by decide +kernel)) ggX12_writeWith_X12_writeLetter
theorem dX12_writeWith_63 : decode cX12_writeWith 63 = .ok (.invokevirtual 98, 3) := by decide +kernel
theorem dX12_writeWith_66 : decode cX12_writeWith 66 = .ok (.ifCond .ne 11, 3) := by decide +kernel
theorem dX12_writeWith_77 : decode cX12_writeWith 77 = .ok (.iinc 5 1, 3) := by decide +kernel
theorem dX12_writeWith_80 : decode cX12_writeWith 80 = .ok (.goto (-69), 3) := by decide +kernel
theorem dX12_writeWith_69 : decode cX12_writeWith 69 = .ok (.aload_n 0, 1) := by decide +kernel
theorem dX12_writeWith_70 : decode cX12_writeWith 70 = .ok (.iload 5, 2) := by decide +kernel
theorem dX12_writeWith_72 : decode cX12_writeWith 72 = .ok (.putfield 102, 3) := by decide +kernel
theorem dX12_writeWith_75 : decode cX12_writeWith 75 = .ok (.iconst 0, 1) := by decide +kernel
theorem dX12_writeWith_76 : decode cX12_writeWith 76 = .ok (.ireturn, 1) := by decide +kernel
theorem dX12_writeWith_34 : decode cX12_writeWith 34 = .ok (.aload_n 0, 1) := by decide +kernel
theorem dX12_writeWith_35 : decode cX12_writeWith 35 = .ok (.iload 4, 2) := by decide +kernel
theorem dX12_writeWith_37 : decode cX12_writeWith 37 = .ok (.ifCond .eq 7, 3) := by decide +kernel
theorem dX12_writeWith_44 : decode cX12_writeWith 44 = .ok (.iload_n 3, 1) := by decide +kernel
set_option maxRecDepth 20000 in
theorem ggX12_writeWith_X12_put : GoodIn wsX12_writeWith wsX12_put := goodIn_r _ [10, 11, 1, 18, 19, 20, 21, 22, 23, 24, 25, 26, 27, 28, 29, 30, 31, 32, 33, 34, 35, 36, 37, 38, 39, 40, 41, 42, 43, 44, 45, 46, 47, 48, 49, 50, 51, 52, 53, 54, 55, 56, 57] rfl (by decide +kernel)
set_option maxRecDepth 20000 in
theorem gX12_writeWith_X12_put : GoodIn wsX12_writeWith (wsV RX12 94 RX12 yX12_put wsX12_put) := goodIn_app (goodIn_r _ [6, 7, 8, 9] rfl (by decide +kernel)) ggX12_writeWith_X12_put
theorem dX12_writeWith_45 : decode cX12_writeWith 45 = .ok (.invokevirtual 94, 3) := by decide +kernel
theorem dX12_writeWith_48 : decode cX12_writeWith 48 = .ok (.iconst 0, 1) := by decide +kernel
theorem dX12_writeWith_49 : decode cX12_writeWith 49 = .ok (.istore 4, 2) := by decide +kernel
theorem dX12_writeWith_51 : decode cX12_writeWith 51 = .ok (.goto 26, 3) := by decide +kernel
theorem dX12_writeWith_40 : decode cX12_writeWith 40 = .ok (.iload_n 2, 1) := by decide +kernel
theorem dX12_writeWith_41 : decode cX12_writeWith 41 = .ok (.goto 4, 3) := by decide +kernel
theorem dX12_isAlone_0 : decode cX12_isAlone 0 = .ok (.aload_n 0, 1) := by decide +kernel
theorem dX12_isAlone_1 : decode cX12_isAlone 1 = .ok (.getfield 58, 3) := by decide +kernel
theorem dX12_isAlone_4 : decode cX12_isAlone 4 = .ok (.iconst 0, 1) := by decide +kernel
theorem dX12_isAlone_5 : decode cX12_isAlone 5 = .ok (.iload_n 2, 1) := by decide +kernel
theorem dX12_isAlone_6 : decode cX12_isAlone 6 = .ok (.iastore, 1) := by decide +kernel
theorem dX12_isAlone_7 : decode cX12_isAlone 7 = .ok (.aload_n 0, 1) := by decide +kernel
theorem dX12_isAlone_8 : decode cX12_isAlone 8 = .ok (.iconst 1, 1) := by decide +kernel
theorem dX12_isAlone_9 : decode cX12_isAlone 9 = .ok (.putfield 91, 3) := by decide +kernel
theorem dX12_isAlone_12 : decode cX12_isAlone 12 = .ok (.aload_n 0, 1) := by decide +kernel
theorem dX12_isAlone_13 : decode cX12_isAlone 13 = .ok (.iload_n 1, 1) := by decide +kernel
theorem dX12_isAlone_14 : decode cX12_isAlone 14 = .ok (.iconst 0, 1) := by decide +kernel
set_option maxRecDepth 20000 in
theorem ggX12_isAlone_X12_readAt : GoodIn wsX12_isAlone wsX12_readAt := goodIn_r _ [7, 1, 8, 9, 10, 11, 12, 6, 13, 2, 14, 15, 16, 17, 18, 19, 20, 21, 22, 23, 24, 25, 26, 27, 28, 29, 30, 31, 32, 33, 34, 35, 36, 37, 38, 39, 40, 41, 42, 43, 44, 45, 46, 47, 48, 49, 50, 51, 52, 53, 54, 55, 56, 57, 58, 59, 60, 61, 62] rfl (by decide +kernel)
set_option maxRecDepth 20000 in
theorem gX12_isAlone_X12_readAt : GoodIn wsX12_isAlone (wsV RX12 122 RX12 yX12_readAt wsX12_readAt) := goodIn_app (goodIn_r _ [3, 4, 5, 6] rfl (by decide +kernel)) ggX12_isAlone_X12_readAt
theorem dX12_isAlone_15 : decode cX12_isAlone 15 = .ok (.invokevirtual 122, 3) := by decide +kernel
theorem dX12_isAlone_18 : decode cX12_isAlone 18 = .ok (.ifCond .le 7, 3) := by decide +kernel
theorem dX12_isAlone_25 : decode cX12_isAlone 25 = .ok (.iconst 0, 1) := by decide +kernel
theorem dX12_isAlone_26 : decode cX12_isAlone 26 = .ok (.ireturn, 1) := by decide +kernel
theorem dX12_isAlone_21 : decode cX12_isAlone 21 = .ok (.iconst 1, 1) := by decide +kernel
theorem dX12_isAlone_22 : decode cX12_isAlone 22 = .ok (.goto 4, 3) := by decide +kernel
theorem dX12_isChoice_0 : decode cX12_isChoice 0 = .ok (.aload_n 0, 1) := by decide +kernel
theorem dX12_isChoice_1 : decode cX12_isChoice 1 = .ok (.iload_n 2, 1) := by decide +kernel
theorem dX12_isChoice_2 : decode cX12_isChoice 2 = .ok (.iload_n 3, 1) := by decide +kernel
theorem dX12_isChoice_3 : decode cX12_isChoice 3 = .ok (.iload 4, 2) := by decide +kernel
set_option maxRecDepth 20000 in
theorem ggX12_isChoice_X12_writeWith : GoodIn wsX12_isChoice wsX12_writeWith := goodIn_r _ [12, 5, 6, 7, 13, 14, 15, 16, 17, 11, 18, 19, 20, 21, 22, 23, 24, 25, 52, 53, 54, 55, 56, 57, 58, 59, 60, 61, 62, 63, 64, 65, 66, 67, 68, 69, 70, 71, 72, 73, 74, 75, 76, 77, 78, 79, 80, 81, 82, 83, 84, 85, 86, 87, 88, 89, 90, 91] rfl (by decide +kernel)
set_option maxRecDepth 20000 in
theorem gX12_isChoice_X12_writeWith : GoodIn wsX12_isChoice (wsV RX12 203 RX12 yX12_writeWith wsX12_writeWith) := goodIn_app (goodIn_r _ [8, 9, 10, 11] rfl (by decide +kernel)) ggX12_isChoice_X12_writeWith
theorem dX12_isChoice_5 : decode cX12_isChoice 5 = .ok (.invokevirtual 203, 3) := by decide +kernel
theorem dX12_isChoice_8 : decode cX12_isChoice 8 = .ok (.ifCond .eq 22, 3) := by decide +kernel
theorem dX12_isChoice_30 : decode cX12_isChoice 30 = .ok (.iconst 0, 1) := by decide +kernel
theorem dX12_isChoice_31 : decode cX12_isChoice 31 = .ok (.ireturn, 1) := by decide +kernel
theorem dX12_isChoice_11 : decode cX12_isChoice 11 = .ok (.aload_n 0, 1) := by decide +kernel
theorem dX12_isChoice_12 : decode cX12_isChoice 12 = .ok (.iload_n 1, 1) := by decide +kernel
theorem dX12_isChoice_13 : decode cX12_isChoice 13 = .ok (.iconst 0, 1) := by decide +kernel
set_option maxRecDepth 20000 in
theorem ggX12_isChoice_X12_read : GoodIn wsX12_isChoice wsX12_read := goodIn_r _ [29, 1, 5, 14, 4, 13, 30, 31, 32, 33, 11, 34, 19, 35, 36, 37, 38, 39, 40, 41, 42, 43, 44, 45, 25, 46, 47, 52, 53, 54, 55, 56, 57, 58, 59, 60, 61, 62, 63, 64, 65, 66, 67, 68, 69, 70, 71, 72, 73, 74, 75, 76, 77, 78, 79, 80, 81, 82, 83, 84, 85, 86, 87, 88, 89, 90, 91] rfl (by decide +kernel)
set_option maxRecDepth 20000 in
theorem gX12_isChoice_X12_read : GoodIn wsX12_isChoice (wsV RX12 131 RX12 yX12_read wsX12_read) := goodIn_app (goodIn_r _ [26, 27, 28, 11] rfl (by decide +kernel)) ggX12_isChoice_X12_read
theorem dX12_isChoice_14 : decode cX12_isChoice 14 = .ok (.invokevirtual 131, 3) := by decide +kernel
theorem dX12_isChoice_17 : decode cX12_isChoice 17 = .ok (.ifCond .eq 13, 3) := by decide +kernel
theorem dX12_isChoice_20 : decode cX12_isChoice 20 = .ok (.aload_n 0, 1) := by decide +kernel
theorem dX12_isChoice_21 : decode cX12_isChoice 21 = .ok (.getfield 119, 3) := by decide +kernel
theorem dX12_isChoice_24 : decode cX12_isChoice 24 = .ok (.sipush 300, 3) := by decide +kernel
theorem dX12_isChoice_27 : decode cX12_isChoice 27 = .ok (.if_icmp .le 5, 3) := by decide +kernel
theorem dX12_isChoice_32 : decode cX12_isChoice 32 = .ok (.aload_n 0, 1) := by decide +kernel
theorem dX12_isChoice_33 : decode cX12_isChoice 33 = .ok (.aload_n 0, 1) := by decide +kernel
theorem dX12_isChoice_34 : decode cX12_isChoice 34 = .ok (.getfield 119, 3) := by decide +kernel
theorem dX12_isChoice_37 : decode cX12_isChoice 37 = .ok (.putfield 135, 3) := by decide +kernel
theorem dX12_isChoice_40 : decode cX12_isChoice 40 = .ok (.iconst 0, 1) := by decide +kernel
theorem dX12_isChoice_41 : decode cX12_isChoice 41 = .ok (.istore 5, 2) := by decide +kernel
theorem dX12_isChoice_43 : decode cX12_isChoice 43 = .ok (.iload 5, 2) := by decide +kernel
theorem dX12_isChoice_45 : decode cX12_isChoice 45 = .ok (.aload_n 0, 1) := by decide +kernel
theorem dX12_isChoice_46 : decode cX12_isChoice 46 = .ok (.getfield 135, 3) := by decide +kernel
theorem dX12_isChoice_49 : decode cX12_isChoice 49 = .ok (.if_icmp .ge 23, 3) := by decide +kernel
theorem dX12_isChoice_72 : decode cX12_isChoice 72 = .ok (.aload_n 0, 1) := by decide +kernel
theorem dX12_isChoice_73 : decode cX12_isChoice 73 = .ok (.iload_n 1, 1) := by decide +kernel
theorem dX12_isChoice_74 : decode cX12_isChoice 74 = .ok (.aload_n 0, 1) := by decide +kernel
theorem dX12_isChoice_75 : decode cX12_isChoice 75 = .ok (.getfield 64, 3) := by decide +kernel
theorem dX12_isChoice_78 : decode cX12_isChoice 78 = .ok (.aload_n 0, 1) := by decide +kernel
theorem dX12_isChoice_79 : decode cX12_isChoice 79 = .ok (.getfield 135, 3) := by decide +kernel
set_option maxRecDepth 20000 in
theorem ggX12_isChoice_X12_write : GoodIn wsX12_isChoice wsX12_write := goodIn_r _ [51, 5, 14, 20, 21, 22, 11, 23, 24, 25, 15, 16, 17, 18, 19, 52, 53, 54, 55, 56, 57, 58, 59, 60, 61, 62, 63, 64, 65, 66, 67, 68, 69, 70, 71, 72, 73, 74, 75, 76, 77, 78, 79, 80, 81, 82, 83, 84, 85, 86, 87, 88, 89, 90, 91] rfl (by decide +kernel)
set_option maxRecDepth 20000 in
theorem gX12_isChoice_X12_write : GoodIn wsX12_isChoice (wsV RX12 127 RX12 yX12_write wsX12_write) := goodIn_app (goodIn_r _ [48, 49, 50, 11] rfl (by decide +kernel)) ggX12_isChoice_X12_write
theorem dX12_isChoice_82 : decode cX12_isChoice 82 = .ok (.invokevirtual 127, 3) := by decide +kernel
theorem dX12_isChoice_85 : decode cX12_isChoice 85 = .ok (.ifCond .eq 13, 3) := by decide +kernel
theorem dX12_isChoice_98 : decode cX12_isChoice 98 = .ok (.iconst 0, 1) := by decide +kernel
theorem dX12_isChoice_99 : decode cX12_isChoice 99 = .ok (.ireturn, 1) := by decide +kernel
theorem dX12_isChoice_88 : decode cX12_isChoice 88 = .ok (.aload_n 0, 1) := by decide +kernel
theorem dX12_isChoice_89 : decode cX12_isChoice 89 = .ok (.getfield 91, 3) := by decide +kernel
theorem dX12_isChoice_92 : decode cX12_isChoice 92 = .ok (.sipush 900, 3) := by decide +kernel
theorem dX12_isChoice_95 : decode cX12_isChoice 95 = .ok (.if_icmp .le 5, 3) := by decide +kernel
theorem dX12_isChoice_100 : decode cX12_isChoice 100 = .ok (.aload_n 0, 1) := by decide +kernel
theorem dX12_isChoice_101 : decode cX12_isChoice 101 = .ok (.iload_n 2, 1) := by decide +kernel
theorem dX12_isChoice_102 : decode cX12_isChoice 102 = .ok (.iconst 1, 1) := by decide +kernel
theorem dX12_isChoice_103 : decode cX12_isChoice 103 = .ok (.invokevirtual 131, 3) := by decide +kernel
theorem dX12_isChoice_106 : decode cX12_isChoice 106 = .ok (.pop, 1) := by decide +kernel
theorem dX12_isChoice_107 : decode cX12_isChoice 107 = .ok (.aload_n 0, 1) := by decide +kernel
theorem dX12_isChoice_108 : decode cX12_isChoice 108 = .ok (.getfield 119, 3) := by decide +kernel
theorem dX12_isChoice_111 : decode cX12_isChoice 111 = .ok (.aload_n 0, 1) := by decide +kernel
theorem dX12_isChoice_112 : decode cX12_isChoice 112 = .ok (.getfield 13, 3) := by decide +kernel
theorem dX12_isChoice_115 : decode cX12_isChoice 115 = .ok (.iconst 0, 1) := by decide +kernel
theorem dX12_isChoice_116 : decode cX12_isChoice 116 = .ok (.iaload, 1) := by decide +kernel
theorem dX12_isChoice_117 : decode cX12_isChoice 117 = .ok (.if_icmp .ne 7, 3) := by decide +kernel
theorem dX12_isChoice_124 : decode cX12_isChoice 124 = .ok (.iconst 0, 1) := by decide +kernel
theorem dX12_isChoice_125 : decode cX12_isChoice 125 = .ok (.istore 5, 2) := by decide +kernel
theorem dX12_isChoice_127 : decode cX12_isChoice 127 = .ok (.iconst 0, 1) := by decide +kernel
theorem dX12_isChoice_128 : decode cX12_isChoice 128 = .ok (.istore 6, 2) := by decide +kernel
theorem dX12_isChoice_130 : decode cX12_isChoice 130 = .ok (.iload 5, 2) := by decide +kernel
theorem dX12_isChoice_132 : decode cX12_isChoice 132 = .ok (.ifCond .eq 42, 3) := by decide +kernel
theorem dX12_isChoice_174 : decode cX12_isChoice 174 = .ok (.iload 5, 2) := by decide +kernel
theorem dX12_isChoice_176 : decode cX12_isChoice 176 = .ok (.ireturn, 1) := by decide +kernel
theorem dX12_isChoice_135 : decode cX12_isChoice 135 = .ok (.iload 6, 2) := by decide +kernel
theorem dX12_isChoice_137 : decode cX12_isChoice 137 = .ok (.aload_n 0, 1) := by decide +kernel
theorem dX12_isChoice_138 : decode cX12_isChoice 138 = .ok (.getfield 119, 3) := by decide +kernel
theorem dX12_isChoice_141 : decode cX12_isChoice 141 = .ok (.if_icmp .ge 33, 3) := by decide +kernel
theorem dX12_isChoice_144 : decode cX12_isChoice 144 = .ok (.aload_n 0, 1) := by decide +kernel
theorem dX12_isChoice_145 : decode cX12_isChoice 145 = .ok (.getfield 61, 3) := by decide +kernel
theorem dX12_isChoice_148 : decode cX12_isChoice 148 = .ok (.iload 6, 2) := by decide +kernel
theorem dX12_isChoice_150 : decode cX12_isChoice 150 = .ok (.iaload, 1) := by decide +kernel
theorem dX12_isChoice_151 : decode cX12_isChoice 151 = .ok (.aload_n 0, 1) := by decide +kernel
theorem dX12_isChoice_152 : decode cX12_isChoice 152 = .ok (.getfield 16, 3) := by decide +kernel
theorem dX12_isChoice_155 : decode cX12_isChoice 155 = .ok (.iload 6, 2) := by decide +kernel
theorem dX12_isChoice_157 : decode cX12_isChoice 157 = .ok (.iaload, 1) := by decide +kernel
theorem dX12_isChoice_158 : decode cX12_isChoice 158 = .ok (.if_icmp .ne 7, 3) := by decide +kernel
theorem dX12_isChoice_165 : decode cX12_isChoice 165 = .ok (.iconst 0, 1) := by decide +kernel
theorem dX12_isChoice_166 : decode cX12_isChoice 166 = .ok (.istore 5, 2) := by decide +kernel
theorem dX12_isChoice_168 : decode cX12_isChoice 168 = .ok (.iinc 6 1, 3) := by decide +kernel
theorem dX12_isChoice_171 : decode cX12_isChoice 171 = .ok (.goto (-41), 3) := by decide +kernel
theorem dX12_isChoice_161 : decode cX12_isChoice 161 = .ok (.iconst 1, 1) := by decide +kernel
theorem dX12_isChoice_162 : decode cX12_isChoice 162 = .ok (.goto 4, 3) := by decide +kernel
theorem dX12_isChoice_120 : decode cX12_isChoice 120 = .ok (.iconst 1, 1) := by decide +kernel
theorem dX12_isChoice_121 : decode cX12_isChoice 121 = .ok (.goto 4, 3) := by decide +kernel
theorem dX12_isChoice_52 : decode cX12_isChoice 52 = .ok (.aload_n 0, 1) := by decide +kernel
theorem dX12_isChoice_53 : decode cX12_isChoice 53 = .ok (.getfield 64, 3) := by decide +kernel
theorem dX12_isChoice_56 : decode cX12_isChoice 56 = .ok (.iload 5, 2) := by decide +kernel
theorem dX12_isChoice_58 : decode cX12_isChoice 58 = .ok (.aload_n 0, 1) := by decide +kernel
theorem dX12_isChoice_59 : decode cX12_isChoice 59 = .ok (.getfield 61, 3) := by decide +kernel
theorem dX12_isChoice_62 : decode cX12_isChoice 62 = .ok (.iload 5, 2) := by decide +kernel
theorem dX12_isChoice_64 : decode cX12_isChoice 64 = .ok (.iaload, 1) := by decide +kernel
theorem dX12_isChoice_65 : decode cX12_isChoice 65 = .ok (.iastore, 1) := by decide +kernel
theorem dX12_isChoice_66 : decode cX12_isChoice 66 = .ok (.iinc 5 1, 3) := by decide +kernel
theorem dX12_isChoice_69 : decode cX12_isChoice 69 = .ok (.goto (-26), 3) := by decide +kernel
theorem dX12_isToldChoice_0 : decode cX12_isToldChoice 0 = .ok (.iload_n 1, 1) := by decide +kernel
theorem dX12_isToldChoice_1 : decode cX12_isToldChoice 1 = .ok (.ifCond .lt 22, 3) := by decide +kernel
theorem dX12_isToldChoice_23 : decode cX12_isToldChoice 23 = .ok (.iconst 0, 1) := by decide +kernel
theorem dX12_isToldChoice_24 : decode cX12_isToldChoice 24 = .ok (.ireturn, 1) := by decide +kernel
theorem dX12_isToldChoice_4 : decode cX12_isToldChoice 4 = .ok (.iload_n 1, 1) := by decide +kernel
theorem dX12_isToldChoice_5 : decode cX12_isToldChoice 5 = .ok (.aload_n 0, 1) := by decide +kernel
theorem dX12_isToldChoice_6 : decode cX12_isToldChoice 6 = .ok (.getfield 213, 3) := by decide +kernel
theorem dX12_isToldChoice_9 : decode cX12_isToldChoice 9 = .ok (.if_icmp .ge 14, 3) := by decide +kernel
theorem dX12_isToldChoice_12 : decode cX12_isToldChoice 12 = .ok (.iload_n 1, 1) := by decide +kernel
theorem dX12_isToldChoice_13 : decode cX12_isToldChoice 13 = .ok (.sipush 200, 3) := by decide +kernel
theorem dX12_isToldChoice_16 : decode cX12_isToldChoice 16 = .ok (.if_icmp .ge 7, 3) := by decide +kernel
theorem dX12_isToldChoice_19 : decode cX12_isToldChoice 19 = .ok (.iconst 1, 1) := by decide +kernel
theorem dX12_isToldChoice_20 : decode cX12_isToldChoice 20 = .ok (.goto 4, 3) := by decide +kernel
theorem dX12_choice_0 : decode cX12_choice 0 = .ok (.aload_n 0, 1) := by decide +kernel
theorem dX12_choice_1 : decode cX12_choice 1 = .ok (.iconst 0, 1) := by decide +kernel
theorem dX12_choice_2 : decode cX12_choice 2 = .ok (.putfield 85, 3) := by decide +kernel
theorem dX12_choice_5 : decode cX12_choice 5 = .ok (.aload_n 0, 1) := by decide +kernel
theorem dX12_choice_6 : decode cX12_choice 6 = .ok (.iload_n 1, 1) := by decide +kernel
set_option maxRecDepth 20000 in
theorem ggX12_choice_X12_isToldChoice : GoodIn wsX12_choice wsX12_isToldChoice := goodIn_r _ [7, 8, 9, 10, 11, 12, 13, 14, 15, 16, 17, 18, 19, 20, 21, 22, 23, 24, 25, 26, 27, 28, 29, 30, 31, 32, 33, 34, 35, 36, 37, 38, 39, 40, 41, 42, 43, 44, 45, 46, 47, 48] rfl (by decide +kernel)
set_option maxRecDepth 20000 in
theorem gX12_choice_X12_isToldChoice : GoodIn wsX12_choice (wsV RX12 222 RX12 yX12_isToldChoice wsX12_isToldChoice) := goodIn_app (goodIn_r _ [3, 4, 5, 6] rfl (by decide +kernel)) ggX12_choice_X12_isToldChoice
theorem dX12_choice_7 : decode cX12_choice 7 = .ok (.invokevirtual 222, 3) := by decide +kernel
theorem dX12_choice_10 : decode cX12_choice 10 = .ok (.ifCond .eq 25, 3) := by decide +kernel
theorem dX12_choice_35 : decode cX12_choice 35 = .ok (.iconst (-1), 1) := by decide +kernel
theorem dX12_choice_36 : decode cX12_choice 36 = .ok (.ireturn, 1) := by decide +kernel
theorem dX12_choice_13 : decode cX12_choice 13 = .ok (.iload_n 2, 1) := by decide +kernel
theorem dX12_choice_14 : decode cX12_choice 14 = .ok (.ifCond .lt 21, 3) := by decide +kernel
theorem dX12_choice_17 : decode cX12_choice 17 = .ok (.iload_n 2, 1) := by decide +kernel
theorem dX12_choice_18 : decode cX12_choice 18 = .ok (.iconst 4, 1) := by decide +kernel
theorem dX12_choice_19 : decode cX12_choice 19 = .ok (.if_icmp .ge 16, 3) := by decide +kernel
theorem dX12_choice_22 : decode cX12_choice 22 = .ok (.aload_n 0, 1) := by decide +kernel
theorem dX12_choice_23 : decode cX12_choice 23 = .ok (.getfield 48, 3) := by decide +kernel
theorem dX12_choice_26 : decode cX12_choice 26 = .ok (.iconst 4, 1) := by decide +kernel
theorem dX12_choice_27 : decode cX12_choice 27 = .ok (.iload_n 1, 1) := by decide +kernel
theorem dX12_choice_28 : decode cX12_choice 28 = .ok (.imul, 1) := by decide +kernel
theorem dX12_choice_29 : decode cX12_choice 29 = .ok (.iload_n 2, 1) := by decide +kernel
theorem dX12_choice_30 : decode cX12_choice 30 = .ok (.iadd, 1) := by decide +kernel
theorem dX12_choice_31 : decode cX12_choice 31 = .ok (.iaload, 1) := by decide +kernel
theorem dX12_choice_32 : decode cX12_choice 32 = .ok (.goto 4, 3) := by decide +kernel
theorem dX12_choices_0 : decode cX12_choices 0 = .ok (.aload_n 0, 1) := by decide +kernel
theorem dX12_choices_1 : decode cX12_choices 1 = .ok (.iconst 0, 1) := by decide +kernel
theorem dX12_choices_2 : decode cX12_choices 2 = .ok (.putfield 85, 3) := by decide +kernel
theorem dX12_choices_5 : decode cX12_choices 5 = .ok (.aload_n 0, 1) := by decide +kernel
theorem dX12_choices_6 : decode cX12_choices 6 = .ok (.iconst (-1), 1) := by decide +kernel
theorem dX12_choices_7 : decode cX12_choices 7 = .ok (.putfield 55, 3) := by decide +kernel
theorem dX12_choices_10 : decode cX12_choices 10 = .ok (.aload_n 0, 1) := by decide +kernel
set_option maxRecDepth 20000 in
theorem ggX12_choices_X12_marksOf : GoodIn wsX12_choices wsX12_marksOf := goodIn_r _ [17, 3, 18, 19, 90, 91, 92, 93, 94, 95, 96, 97, 98, 99, 100, 101, 102, 103, 104, 105, 106, 107, 108, 109, 110, 111, 112, 113, 114, 115, 116, 117, 118, 119, 120, 121, 122, 123, 124, 125, 126, 127, 128, 129] rfl (by decide +kernel)
set_option maxRecDepth 20000 in
theorem gX12_choices_X12_marksOf : GoodIn wsX12_choices (wsV RX12 164 RX12 yX12_marksOf wsX12_marksOf) := goodIn_app (goodIn_r _ [13, 14, 15, 16] rfl (by decide +kernel)) ggX12_choices_X12_marksOf
theorem dX12_choices_11 : decode cX12_choices 11 = .ok (.invokevirtual 164, 3) := by decide +kernel
theorem dX12_choices_14 : decode cX12_choices 14 = .ok (.istore_n 3, 1) := by decide +kernel
theorem dX12_choices_15 : decode cX12_choices 15 = .ok (.iload_n 3, 1) := by decide +kernel
theorem dX12_choices_16 : decode cX12_choices 16 = .ok (.iconst 1, 1) := by decide +kernel
theorem dX12_choices_17 : decode cX12_choices 17 = .ok (.if_icmp .lt 33, 3) := by decide +kernel
theorem dX12_choices_50 : decode cX12_choices 50 = .ok (.iconst (-1), 1) := by decide +kernel
theorem dX12_choices_51 : decode cX12_choices 51 = .ok (.ireturn, 1) := by decide +kernel
theorem dX12_choices_20 : decode cX12_choices 20 = .ok (.iload_n 3, 1) := by decide +kernel
theorem dX12_choices_21 : decode cX12_choices 21 = .ok (.iconst 2, 1) := by decide +kernel
theorem dX12_choices_22 : decode cX12_choices 22 = .ok (.if_icmp .gt 28, 3) := by decide +kernel
theorem dX12_choices_25 : decode cX12_choices 25 = .ok (.iload_n 1, 1) := by decide +kernel
set_option maxRecDepth 20000 in
theorem ggX12_choices_X12_isCode : GoodIn wsX12_choices wsX12_isCode := goodIn_r _ [22] rfl (by decide +kernel)
set_option maxRecDepth 20000 in
theorem gX12_choices_X12_isCode : GoodIn wsX12_choices (va_wsS RX12 158 yX12_isCode wsX12_isCode) := goodIn_app (goodIn_r _ [20, 21, 16] rfl (by decide +kernel)) ggX12_choices_X12_isCode
theorem dX12_choices_26 : decode cX12_choices 26 = .ok (.invokestatic 158, 3) := by decide +kernel
theorem dX12_choices_29 : decode cX12_choices 29 = .ok (.ifCond .eq 21, 3) := by decide +kernel
theorem dX12_choices_32 : decode cX12_choices 32 = .ok (.iload_n 2, 1) := by decide +kernel
theorem dX12_choices_33 : decode cX12_choices 33 = .ok (.invokestatic 158, 3) := by decide +kernel
theorem dX12_choices_36 : decode cX12_choices 36 = .ok (.ifCond .eq 14, 3) := by decide +kernel
theorem dX12_choices_39 : decode cX12_choices 39 = .ok (.aload_n 0, 1) := by decide +kernel
theorem dX12_choices_40 : decode cX12_choices 40 = .ok (.getfield 13, 3) := by decide +kernel
theorem dX12_choices_43 : decode cX12_choices 43 = .ok (.iconst 0, 1) := by decide +kernel
theorem dX12_choices_44 : decode cX12_choices 44 = .ok (.iaload, 1) := by decide +kernel
theorem dX12_choices_45 : decode cX12_choices 45 = .ok (.bipush 100, 2) := by decide +kernel
theorem dX12_choices_47 : decode cX12_choices 47 = .ok (.if_icmp .le 5, 3) := by decide +kernel
theorem dX12_choices_52 : decode cX12_choices 52 = .ok (.aload_n 0, 1) := by decide +kernel
theorem dX12_choices_53 : decode cX12_choices 53 = .ok (.iload_n 2, 1) := by decide +kernel
theorem dX12_choices_54 : decode cX12_choices 54 = .ok (.iconst 0, 1) := by decide +kernel
theorem dX12_choices_55 : decode cX12_choices 55 = .ok (.iconst 0, 1) := by decide +kernel
set_option maxRecDepth 20000 in
theorem ggX12_choices_X12_writeWith : GoodIn wsX12_choices wsX12_writeWith := goodIn_r _ [26, 27, 3, 18, 19, 4, 28, 29, 30, 16, 31, 32, 33, 34, 35, 36, 37, 38, 90, 91, 92, 93, 94, 95, 96, 97, 98, 99, 100, 101, 102, 103, 104, 105, 106, 107, 108, 109, 110, 111, 112, 113, 114, 115, 116, 117, 118, 119, 120, 121, 122, 123, 124, 125, 126, 127, 128, 129] rfl (by decide +kernel)
set_option maxRecDepth 20000 in
theorem gX12_choices_X12_writeWith : GoodIn wsX12_choices (wsV RX12 203 RX12 yX12_writeWith wsX12_writeWith) := goodIn_app (goodIn_r _ [23, 24, 25, 16] rfl (by decide +kernel)) ggX12_choices_X12_writeWith
theorem dX12_choices_56 : decode cX12_choices 56 = .ok (.invokevirtual 203, 3) := by decide +kernel
theorem dX12_choices_59 : decode cX12_choices 59 = .ok (.ifCond .ne 13, 3) := by decide +kernel
theorem dX12_choices_72 : decode cX12_choices 72 = .ok (.iconst 0, 1) := by decide +kernel
theorem dX12_choices_73 : decode cX12_choices 73 = .ok (.istore 4, 2) := by decide +kernel
theorem dX12_choices_75 : decode cX12_choices 75 = .ok (.iconst 0, 1) := by decide +kernel
theorem dX12_choices_76 : decode cX12_choices 76 = .ok (.istore 5, 2) := by decide +kernel
theorem dX12_choices_78 : decode cX12_choices 78 = .ok (.iload 5, 2) := by decide +kernel
theorem dX12_choices_80 : decode cX12_choices 80 = .ok (.sipush 256, 3) := by decide +kernel
theorem dX12_choices_83 : decode cX12_choices 83 = .ok (.if_icmp .ge 285, 3) := by decide +kernel
theorem dX12_choices_368 : decode cX12_choices 368 = .ok (.aload_n 0, 1) := by decide +kernel
theorem dX12_choices_369 : decode cX12_choices 369 = .ok (.iload 4, 2) := by decide +kernel
theorem dX12_choices_371 : decode cX12_choices 371 = .ok (.putfield 213, 3) := by decide +kernel
theorem dX12_choices_374 : decode cX12_choices 374 = .ok (.aload_n 0, 1) := by decide +kernel
theorem dX12_choices_375 : decode cX12_choices 375 = .ok (.iload_n 1, 1) := by decide +kernel
theorem dX12_choices_376 : decode cX12_choices 376 = .ok (.putfield 216, 3) := by decide +kernel
theorem dX12_choices_379 : decode cX12_choices 379 = .ok (.aload_n 0, 1) := by decide +kernel
theorem dX12_choices_380 : decode cX12_choices 380 = .ok (.iload_n 2, 1) := by decide +kernel
theorem dX12_choices_381 : decode cX12_choices 381 = .ok (.putfield 219, 3) := by decide +kernel
theorem dX12_choices_384 : decode cX12_choices 384 = .ok (.aload_n 0, 1) := by decide +kernel
theorem dX12_choices_385 : decode cX12_choices 385 = .ok (.aload_n 0, 1) := by decide +kernel
theorem dX12_choices_386 : decode cX12_choices 386 = .ok (.getfield 148, 3) := by decide +kernel
theorem dX12_choices_389 : decode cX12_choices 389 = .ok (.putfield 51, 3) := by decide +kernel
theorem dX12_choices_392 : decode cX12_choices 392 = .ok (.iload 4, 2) := by decide +kernel
theorem dX12_choices_394 : decode cX12_choices 394 = .ok (.ireturn, 1) := by decide +kernel
theorem dX12_choices_86 : decode cX12_choices 86 = .ok (.iconst 0, 1) := by decide +kernel
theorem dX12_choices_87 : decode cX12_choices 87 = .ok (.istore 6, 2) := by decide +kernel
theorem dX12_choices_89 : decode cX12_choices 89 = .ok (.iload 6, 2) := by decide +kernel
theorem dX12_choices_106 : decode cX12_choices 106 = .ok (.aload_n 0, 1) := by decide +kernel
theorem dX12_choices_131 : decode cX12_choices 131 = .ok (.aload_n 0, 1) := by decide +kernel
theorem dX12_choices_132 : decode cX12_choices 132 = .ok (.iload_n 1, 1) := by decide +kernel
theorem dX12_choices_133 : decode cX12_choices 133 = .ok (.iload_n 2, 1) := by decide +kernel
theorem dX12_choices_134 : decode cX12_choices 134 = .ok (.iload 5, 2) := by decide +kernel
theorem dX12_choices_136 : decode cX12_choices 136 = .ok (.iload 6, 2) := by decide +kernel
set_option maxRecDepth 20000 in
theorem ggX12_choices_X12_isChoice : GoodIn wsX12_choices wsX12_isChoice := goodIn_r _ [64, 65, 6, 5, 66, 27, 3, 18, 23, 24, 25, 16, 26, 19, 4, 28, 29, 30, 31, 32, 33, 34, 35, 36, 37, 38, 67, 68, 69, 70, 47, 43, 44, 45, 46, 48, 49, 50, 51, 52, 53, 54, 55, 56, 57, 58, 59, 60, 71, 72, 73, 74, 90, 91, 92, 93, 94, 95, 96, 97, 98, 99, 100, 101, 102, 103, 104, 105, 106, 107, 108, 109, 110, 111, 112, 113, 114, 115, 116, 117, 118, 119, 120, 121, 122, 123, 124, 125, 126, 127, 128, 129] rfl (by decide +kernel)
set_option maxRecDepth 20000 in
theorem gX12_choices_X12_isChoice : GoodIn wsX12_choices (wsV RX12 209 RX12 yX12_isChoice wsX12_isChoice) := goodIn_app (goodIn_r _ [61, 62, 63, 16] rfl (by decide +kernel)) ggX12_choices_X12_isChoice
theorem dX12_choices_138 : decode cX12_choices 138 = .ok (.invokevirtual 209, 3) := by decide +kernel
theorem dX12_choices_141 : decode cX12_choices 141 = .ok (.ifCond .ne 6, 3) := by decide +kernel
theorem dX12_choices_147 : decode cX12_choices 147 = .ok (.aload_n 0, 1) := by decide +kernel
theorem dX12_choices_148 : decode cX12_choices 148 = .ok (.aload_n 0, 1) := by decide +kernel
theorem dX12_choices_149 : decode cX12_choices 149 = .ok (.getfield 64, 3) := by decide +kernel
theorem dX12_choices_152 : decode cX12_choices 152 = .ok (.iconst 0, 1) := by decide +kernel
theorem dX12_choices_153 : decode cX12_choices 153 = .ok (.aload_n 0, 1) := by decide +kernel
theorem dX12_choices_154 : decode cX12_choices 154 = .ok (.getfield 135, 3) := by decide +kernel
set_option maxRecDepth 20000 in
theorem ggX12_choices_X12_costOf_ : GoodIn wsX12_choices wsX12_costOf_ := goodIn_r _ [78, 79, 80, 81, 16, 82, 83, 84, 85, 86, 87, 88, 89, 90, 91, 92, 93, 94, 95, 96, 97, 98, 99, 100, 101, 102, 103, 104, 105, 106, 107, 108, 109, 110, 111, 112, 113, 114, 115, 116, 117, 118, 119, 120, 121, 122, 123, 124, 125, 126, 127, 128, 129] rfl (by decide +kernel)
set_option maxRecDepth 20000 in
theorem gX12_choices_X12_costOf_ : GoodIn wsX12_choices (wsV RX12 189 RX12 yX12_costOf_ wsX12_costOf_) := goodIn_app (goodIn_r _ [75, 76, 77, 16] rfl (by decide +kernel)) ggX12_choices_X12_costOf_
theorem dX12_choices_157 : decode cX12_choices 157 = .ok (.invokevirtual 189, 3) := by decide +kernel
theorem dX12_choices_160 : decode cX12_choices 160 = .ok (.istore 7, 2) := by decide +kernel
theorem dX12_choices_207 : decode cX12_choices 207 = .ok (.iinc 4 1, 3) := by decide +kernel
theorem dX12_choices_210 : decode cX12_choices 210 = .ok (.iload 8, 2) := by decide +kernel
theorem dX12_choices_212 : decode cX12_choices 212 = .ok (.sipush 200, 3) := by decide +kernel
theorem dX12_choices_215 : decode cX12_choices 215 = .ok (.if_icmp .ne 6, 3) := by decide +kernel
theorem dX12_choices_221 : decode cX12_choices 221 = .ok (.iload 4, 2) := by decide +kernel
theorem dX12_choices_223 : decode cX12_choices 223 = .ok (.sipush 200, 3) := by decide +kernel
theorem dX12_choices_226 : decode cX12_choices 226 = .ok (.if_icmp .ge 8, 3) := by decide +kernel
theorem dX12_choices_234 : decode cX12_choices 234 = .ok (.sipush 200, 3) := by decide +kernel
theorem dX12_choices_237 : decode cX12_choices 237 = .ok (.iconst 1, 1) := by decide +kernel
theorem dX12_choices_238 : decode cX12_choices 238 = .ok (.isub, 1) := by decide +kernel
theorem dX12_choices_239 : decode cX12_choices 239 = .ok (.istore 9, 2) := by decide +kernel
theorem dX12_choices_241 : decode cX12_choices 241 = .ok (.iload 9, 2) := by decide +kernel
theorem dX12_choices_243 : decode cX12_choices 243 = .ok (.iload 8, 2) := by decide +kernel
theorem dX12_choices_245 : decode cX12_choices 245 = .ok (.if_icmp .le 50, 3) := by decide +kernel
theorem dX12_choices_295 : decode cX12_choices 295 = .ok (.aload_n 0, 1) := by decide +kernel
theorem dX12_choices_296 : decode cX12_choices 296 = .ok (.getfield 48, 3) := by decide +kernel
theorem dX12_choices_299 : decode cX12_choices 299 = .ok (.iconst 4, 1) := by decide +kernel
theorem dX12_choices_300 : decode cX12_choices 300 = .ok (.iload 8, 2) := by decide +kernel
theorem dX12_choices_302 : decode cX12_choices 302 = .ok (.imul, 1) := by decide +kernel
theorem dX12_choices_303 : decode cX12_choices 303 = .ok (.iload 5, 2) := by decide +kernel
theorem dX12_choices_305 : decode cX12_choices 305 = .ok (.iastore, 1) := by decide +kernel
theorem dX12_choices_306 : decode cX12_choices 306 = .ok (.aload_n 0, 1) := by decide +kernel
theorem dX12_choices_307 : decode cX12_choices 307 = .ok (.getfield 48, 3) := by decide +kernel
theorem dX12_choices_310 : decode cX12_choices 310 = .ok (.iconst 4, 1) := by decide +kernel
theorem dX12_choices_311 : decode cX12_choices 311 = .ok (.iload 8, 2) := by decide +kernel
theorem dX12_choices_313 : decode cX12_choices 313 = .ok (.imul, 1) := by decide +kernel
theorem dX12_choices_314 : decode cX12_choices 314 = .ok (.iconst 1, 1) := by decide +kernel
theorem dX12_choices_315 : decode cX12_choices 315 = .ok (.iadd, 1) := by decide +kernel
theorem dX12_choices_316 : decode cX12_choices 316 = .ok (.iload_n 3, 1) := by decide +kernel
theorem dX12_choices_317 : decode cX12_choices 317 = .ok (.iconst 1, 1) := by decide +kernel
theorem dX12_choices_318 : decode cX12_choices 318 = .ok (.if_icmp .ne 7, 3) := by decide +kernel
theorem dX12_choices_325 : decode cX12_choices 325 = .ok (.iload 6, 2) := by decide +kernel
theorem dX12_choices_327 : decode cX12_choices 327 = .ok (.iastore, 1) := by decide +kernel
theorem dX12_choices_328 : decode cX12_choices 328 = .ok (.aload_n 0, 1) := by decide +kernel
theorem dX12_choices_329 : decode cX12_choices 329 = .ok (.getfield 48, 3) := by decide +kernel
theorem dX12_choices_332 : decode cX12_choices 332 = .ok (.iconst 4, 1) := by decide +kernel
theorem dX12_choices_333 : decode cX12_choices 333 = .ok (.iload 8, 2) := by decide +kernel
theorem dX12_choices_335 : decode cX12_choices 335 = .ok (.imul, 1) := by decide +kernel
theorem dX12_choices_336 : decode cX12_choices 336 = .ok (.iconst 2, 1) := by decide +kernel
theorem dX12_choices_337 : decode cX12_choices 337 = .ok (.iadd, 1) := by decide +kernel
theorem dX12_choices_338 : decode cX12_choices 338 = .ok (.iload 7, 2) := by decide +kernel
theorem dX12_choices_340 : decode cX12_choices 340 = .ok (.iastore, 1) := by decide +kernel
theorem dX12_choices_341 : decode cX12_choices 341 = .ok (.aload_n 0, 1) := by decide +kernel
theorem dX12_choices_342 : decode cX12_choices 342 = .ok (.getfield 48, 3) := by decide +kernel
theorem dX12_choices_345 : decode cX12_choices 345 = .ok (.iconst 4, 1) := by decide +kernel
theorem dX12_choices_346 : decode cX12_choices 346 = .ok (.iload 8, 2) := by decide +kernel
theorem dX12_choices_348 : decode cX12_choices 348 = .ok (.imul, 1) := by decide +kernel
theorem dX12_choices_349 : decode cX12_choices 349 = .ok (.iconst 3, 1) := by decide +kernel
theorem dX12_choices_350 : decode cX12_choices 350 = .ok (.iadd, 1) := by decide +kernel
theorem dX12_choices_351 : decode cX12_choices 351 = .ok (.aload_n 0, 1) := by decide +kernel
theorem dX12_choices_352 : decode cX12_choices 352 = .ok (.getfield 135, 3) := by decide +kernel
theorem dX12_choices_355 : decode cX12_choices 355 = .ok (.iastore, 1) := by decide +kernel
theorem dX12_choices_356 : decode cX12_choices 356 = .ok (.iinc 6 1, 3) := by decide +kernel
theorem dX12_choices_359 : decode cX12_choices 359 = .ok (.goto (-270), 3) := by decide +kernel
theorem dX12_choices_321 : decode cX12_choices 321 = .ok (.iconst (-1), 1) := by decide +kernel
theorem dX12_choices_322 : decode cX12_choices 322 = .ok (.goto 5, 3) := by decide +kernel
theorem dX12_choices_248 : decode cX12_choices 248 = .ok (.iconst 0, 1) := by decide +kernel
theorem dX12_choices_249 : decode cX12_choices 249 = .ok (.istore 10, 2) := by decide +kernel
theorem dX12_choices_251 : decode cX12_choices 251 = .ok (.iload 10, 2) := by decide +kernel
theorem dX12_choices_253 : decode cX12_choices 253 = .ok (.iconst 4, 1) := by decide +kernel
theorem dX12_choices_254 : decode cX12_choices 254 = .ok (.if_icmp .ge 35, 3) := by decide +kernel
theorem dX12_choices_289 : decode cX12_choices 289 = .ok (.iinc 9 (-1), 3) := by decide +kernel
theorem dX12_choices_292 : decode cX12_choices 292 = .ok (.goto (-51), 3) := by decide +kernel
theorem dX12_choices_257 : decode cX12_choices 257 = .ok (.aload_n 0, 1) := by decide +kernel
theorem dX12_choices_258 : decode cX12_choices 258 = .ok (.getfield 48, 3) := by decide +kernel
theorem dX12_choices_261 : decode cX12_choices 261 = .ok (.iconst 4, 1) := by decide +kernel
theorem dX12_choices_262 : decode cX12_choices 262 = .ok (.iload 9, 2) := by decide +kernel
theorem dX12_choices_264 : decode cX12_choices 264 = .ok (.imul, 1) := by decide +kernel
theorem dX12_choices_265 : decode cX12_choices 265 = .ok (.iload 10, 2) := by decide +kernel
theorem dX12_choices_267 : decode cX12_choices 267 = .ok (.iadd, 1) := by decide +kernel
theorem dX12_choices_268 : decode cX12_choices 268 = .ok (.aload_n 0, 1) := by decide +kernel
theorem dX12_choices_269 : decode cX12_choices 269 = .ok (.getfield 48, 3) := by decide +kernel
theorem dX12_choices_272 : decode cX12_choices 272 = .ok (.iconst 4, 1) := by decide +kernel
theorem dX12_choices_273 : decode cX12_choices 273 = .ok (.iload 9, 2) := by decide +kernel
theorem dX12_choices_275 : decode cX12_choices 275 = .ok (.imul, 1) := by decide +kernel
theorem dX12_choices_276 : decode cX12_choices 276 = .ok (.iconst 4, 1) := by decide +kernel
theorem dX12_choices_277 : decode cX12_choices 277 = .ok (.isub, 1) := by decide +kernel
theorem dX12_choices_278 : decode cX12_choices 278 = .ok (.iload 10, 2) := by decide +kernel
theorem dX12_choices_280 : decode cX12_choices 280 = .ok (.iadd, 1) := by decide +kernel
theorem dX12_choices_281 : decode cX12_choices 281 = .ok (.iaload, 1) := by decide +kernel
theorem dX12_choices_282 : decode cX12_choices 282 = .ok (.iastore, 1) := by decide +kernel
theorem dX12_choices_283 : decode cX12_choices 283 = .ok (.iinc 10 1, 3) := by decide +kernel
theorem dX12_choices_286 : decode cX12_choices 286 = .ok (.goto (-35), 3) := by decide +kernel
theorem dX12_choices_229 : decode cX12_choices 229 = .ok (.iload 4, 2) := by decide +kernel
theorem dX12_choices_231 : decode cX12_choices 231 = .ok (.goto 6, 3) := by decide +kernel
theorem dX12_choices_218 : decode cX12_choices 218 = .ok (.goto 138, 3) := by decide +kernel
theorem dX12_choices_162 : decode cX12_choices 162 = .ok (.iload 4, 2) := by decide +kernel
theorem dX12_choices_164 : decode cX12_choices 164 = .ok (.sipush 200, 3) := by decide +kernel
theorem dX12_choices_167 : decode cX12_choices 167 = .ok (.if_icmp .ge 8, 3) := by decide +kernel
theorem dX12_choices_175 : decode cX12_choices 175 = .ok (.sipush 200, 3) := by decide +kernel
theorem dX12_choices_178 : decode cX12_choices 178 = .ok (.istore 8, 2) := by decide +kernel
theorem dX12_choices_180 : decode cX12_choices 180 = .ok (.iload 8, 2) := by decide +kernel
theorem dX12_choices_182 : decode cX12_choices 182 = .ok (.ifCond .le 25, 3) := by decide +kernel
theorem dX12_choices_185 : decode cX12_choices 185 = .ok (.aload_n 0, 1) := by decide +kernel
theorem dX12_choices_186 : decode cX12_choices 186 = .ok (.getfield 48, 3) := by decide +kernel
theorem dX12_choices_189 : decode cX12_choices 189 = .ok (.iconst 4, 1) := by decide +kernel
theorem dX12_choices_190 : decode cX12_choices 190 = .ok (.iload 8, 2) := by decide +kernel
theorem dX12_choices_192 : decode cX12_choices 192 = .ok (.imul, 1) := by decide +kernel
theorem dX12_choices_193 : decode cX12_choices 193 = .ok (.iconst 2, 1) := by decide +kernel
theorem dX12_choices_194 : decode cX12_choices 194 = .ok (.isub, 1) := by decide +kernel
theorem dX12_choices_195 : decode cX12_choices 195 = .ok (.iaload, 1) := by decide +kernel
theorem dX12_choices_196 : decode cX12_choices 196 = .ok (.iload 7, 2) := by decide +kernel
theorem dX12_choices_198 : decode cX12_choices 198 = .ok (.if_icmp .le 9, 3) := by decide +kernel
theorem dX12_choices_201 : decode cX12_choices 201 = .ok (.iinc 8 (-1), 3) := by decide +kernel
theorem dX12_choices_204 : decode cX12_choices 204 = .ok (.goto (-24), 3) := by decide +kernel
theorem dX12_choices_170 : decode cX12_choices 170 = .ok (.iload 4, 2) := by decide +kernel
theorem dX12_choices_172 : decode cX12_choices 172 = .ok (.goto 6, 3) := by decide +kernel
theorem dX12_choices_144 : decode cX12_choices 144 = .ok (.goto 212, 3) := by decide +kernel
theorem dX12_choices_107 : decode cX12_choices 107 = .ok (.iload_n 2, 1) := by decide +kernel
theorem dX12_choices_108 : decode cX12_choices 108 = .ok (.iload 5, 2) := by decide +kernel
set_option maxRecDepth 20000 in
theorem ggX12_choices_X12_isAlone : GoodIn wsX12_choices wsX12_isAlone := goodIn_r _ [42, 32, 27, 43, 44, 45, 16, 46, 47, 48, 49, 50, 51, 52, 53, 54, 55, 56, 57, 58, 38, 59, 60, 90, 91, 92, 93, 94, 95, 96, 97, 98, 99, 100, 101, 102, 103, 104, 105, 106, 107, 108, 109, 110, 111, 112, 113, 114, 115, 116, 117, 118, 119, 120, 121, 122, 123, 124, 125, 126, 127, 128, 129] rfl (by decide +kernel)
set_option maxRecDepth 20000 in
theorem gX12_choices_X12_isAlone : GoodIn wsX12_choices (wsV RX12 206 RX12 yX12_isAlone wsX12_isAlone) := goodIn_app (goodIn_r _ [39, 40, 41, 16] rfl (by decide +kernel)) ggX12_choices_X12_isAlone
theorem dX12_choices_110 : decode cX12_choices 110 = .ok (.invokevirtual 206, 3) := by decide +kernel
theorem dX12_choices_113 : decode cX12_choices 113 = .ok (.ifCond .ne 243, 3) := by decide +kernel
theorem dX12_choices_116 : decode cX12_choices 116 = .ok (.iload_n 3, 1) := by decide +kernel
theorem dX12_choices_117 : decode cX12_choices 117 = .ok (.iconst 2, 1) := by decide +kernel
theorem dX12_choices_118 : decode cX12_choices 118 = .ok (.if_icmp .ne 13, 3) := by decide +kernel
theorem dX12_choices_121 : decode cX12_choices 121 = .ok (.aload_n 0, 1) := by decide +kernel
theorem dX12_choices_122 : decode cX12_choices 122 = .ok (.iload_n 2, 1) := by decide +kernel
theorem dX12_choices_123 : decode cX12_choices 123 = .ok (.iload 6, 2) := by decide +kernel
theorem dX12_choices_125 : decode cX12_choices 125 = .ok (.invokevirtual 206, 3) := by decide +kernel
theorem dX12_choices_128 : decode cX12_choices 128 = .ok (.ifCond .ne 228, 3) := by decide +kernel
theorem dX12_choices_91 : decode cX12_choices 91 = .ok (.iload_n 3, 1) := by decide +kernel
theorem dX12_choices_92 : decode cX12_choices 92 = .ok (.iconst 1, 1) := by decide +kernel
theorem dX12_choices_93 : decode cX12_choices 93 = .ok (.if_icmp .ne 7, 3) := by decide +kernel
theorem dX12_choices_100 : decode cX12_choices 100 = .ok (.sipush 256, 3) := by decide +kernel
theorem dX12_choices_103 : decode cX12_choices 103 = .ok (.if_icmp .ge 259, 3) := by decide +kernel
theorem dX12_choices_362 : decode cX12_choices 362 = .ok (.iinc 5 1, 3) := by decide +kernel
theorem dX12_choices_365 : decode cX12_choices 365 = .ok (.goto (-287), 3) := by decide +kernel
theorem dX12_choices_96 : decode cX12_choices 96 = .ok (.iconst 1, 1) := by decide +kernel
theorem dX12_choices_97 : decode cX12_choices 97 = .ok (.goto 6, 3) := by decide +kernel
theorem dX12_choices_62 : decode cX12_choices 62 = .ok (.aload_n 0, 1) := by decide +kernel
theorem dX12_choices_63 : decode cX12_choices 63 = .ok (.aload_n 0, 1) := by decide +kernel
theorem dX12_choices_64 : decode cX12_choices 64 = .ok (.getfield 102, 3) := by decide +kernel
theorem dX12_choices_67 : decode cX12_choices 67 = .ok (.putfield 55, 3) := by decide +kernel
theorem dX12_choices_70 : decode cX12_choices 70 = .ok (.iconst (-1), 1) := by decide +kernel
theorem dX12_choices_71 : decode cX12_choices 71 = .ok (.ireturn, 1) := by decide +kernel
theorem dX12_chosen_0 : decode cX12_chosen 0 = .ok (.aload_n 0, 1) := by decide +kernel
theorem dX12_chosen_1 : decode cX12_chosen 1 = .ok (.iconst 0, 1) := by decide +kernel
theorem dX12_chosen_2 : decode cX12_chosen 2 = .ok (.putfield 85, 3) := by decide +kernel
theorem dX12_chosen_5 : decode cX12_chosen 5 = .ok (.aload_n 0, 1) := by decide +kernel
theorem dX12_chosen_6 : decode cX12_chosen 6 = .ok (.iload_n 1, 1) := by decide +kernel
set_option maxRecDepth 20000 in
theorem ggX12_chosen_X12_isToldChoice : GoodIn wsX12_chosen wsX12_isToldChoice := goodIn_r _ [13, 14, 73, 74, 75, 76, 77, 78, 79, 80, 81, 82, 83, 84, 85, 86, 87, 88, 89, 90, 91, 92, 93, 94, 95, 96, 97, 98, 99, 100, 101, 102, 103, 104, 105, 106, 107, 108, 109, 110, 111, 112] rfl (by decide +kernel)
set_option maxRecDepth 20000 in
theorem gX12_chosen_X12_isToldChoice : GoodIn wsX12_chosen (wsV RX12 222 RX12 yX12_isToldChoice wsX12_isToldChoice) := goodIn_app (goodIn_r _ [9, 10, 11, 12] rfl (by decide +kernel)) ggX12_chosen_X12_isToldChoice
theorem dX12_chosen_7 : decode cX12_chosen 7 = .ok (.invokevirtual 222, 3) := by decide +kernel
theorem dX12_chosen_10 : decode cX12_chosen 10 = .ok (.ifCond .eq 14, 3) := by decide +kernel
theorem dX12_chosen_24 : decode cX12_chosen 24 = .ok (.iconst 0, 1) := by decide +kernel
theorem dX12_chosen_25 : decode cX12_chosen 25 = .ok (.ireturn, 1) := by decide +kernel
theorem dX12_chosen_13 : decode cX12_chosen 13 = .ok (.aload_n 0, 1) := by decide +kernel
theorem dX12_chosen_14 : decode cX12_chosen 14 = .ok (.getfield 51, 3) := by decide +kernel
theorem dX12_chosen_17 : decode cX12_chosen 17 = .ok (.aload_n 0, 1) := by decide +kernel
theorem dX12_chosen_18 : decode cX12_chosen 18 = .ok (.getfield 148, 3) := by decide +kernel
theorem dX12_chosen_21 : decode cX12_chosen 21 = .ok (.if_icmp .eq 5, 3) := by decide +kernel
theorem dX12_chosen_26 : decode cX12_chosen 26 = .ok (.aload_n 0, 1) := by decide +kernel
theorem dX12_chosen_27 : decode cX12_chosen 27 = .ok (.aload_n 0, 1) := by decide +kernel
theorem dX12_chosen_28 : decode cX12_chosen 28 = .ok (.getfield 216, 3) := by decide +kernel
theorem dX12_chosen_31 : decode cX12_chosen 31 = .ok (.aload_n 0, 1) := by decide +kernel
theorem dX12_chosen_32 : decode cX12_chosen 32 = .ok (.getfield 219, 3) := by decide +kernel
theorem dX12_chosen_35 : decode cX12_chosen 35 = .ok (.aload_n 0, 1) := by decide +kernel
theorem dX12_chosen_36 : decode cX12_chosen 36 = .ok (.getfield 48, 3) := by decide +kernel
theorem dX12_chosen_39 : decode cX12_chosen 39 = .ok (.iconst 4, 1) := by decide +kernel
theorem dX12_chosen_40 : decode cX12_chosen 40 = .ok (.iload_n 1, 1) := by decide +kernel
theorem dX12_chosen_41 : decode cX12_chosen 41 = .ok (.imul, 1) := by decide +kernel
theorem dX12_chosen_42 : decode cX12_chosen 42 = .ok (.iaload, 1) := by decide +kernel
theorem dX12_chosen_43 : decode cX12_chosen 43 = .ok (.aload_n 0, 1) := by decide +kernel
theorem dX12_chosen_44 : decode cX12_chosen 44 = .ok (.getfield 48, 3) := by decide +kernel
theorem dX12_chosen_47 : decode cX12_chosen 47 = .ok (.iconst 4, 1) := by decide +kernel
theorem dX12_chosen_48 : decode cX12_chosen 48 = .ok (.iload_n 1, 1) := by decide +kernel
theorem dX12_chosen_49 : decode cX12_chosen 49 = .ok (.imul, 1) := by decide +kernel
theorem dX12_chosen_50 : decode cX12_chosen 50 = .ok (.iconst 1, 1) := by decide +kernel
theorem dX12_chosen_51 : decode cX12_chosen 51 = .ok (.iadd, 1) := by decide +kernel
theorem dX12_chosen_52 : decode cX12_chosen 52 = .ok (.iaload, 1) := by decide +kernel
set_option maxRecDepth 20000 in
theorem ggX12_chosen_X12_isChoice : GoodIn wsX12_chosen wsX12_isChoice := goodIn_r _ [18, 19, 8, 7, 20, 21, 22, 23, 24, 25, 26, 12, 27, 28, 29, 30, 31, 32, 33, 34, 35, 36, 37, 38, 39, 40, 41, 42, 43, 44, 45, 46, 47, 48, 49, 50, 51, 52, 53, 54, 55, 56, 57, 58, 59, 60, 61, 62, 63, 64, 65, 66, 73, 74, 75, 76, 77, 78, 79, 80, 81, 82, 83, 84, 85, 86, 87, 88, 89, 90, 91, 92, 93, 94, 95, 96, 97, 98, 99, 100, 101, 102, 103, 104, 105, 106, 107, 108, 109, 110, 111, 112] rfl (by decide +kernel)
set_option maxRecDepth 20000 in
theorem gX12_chosen_X12_isChoice : GoodIn wsX12_chosen (wsV RX12 209 RX12 yX12_isChoice wsX12_isChoice) := goodIn_app (goodIn_r _ [15, 16, 17, 12] rfl (by decide +kernel)) ggX12_chosen_X12_isChoice
theorem dX12_chosen_53 : decode cX12_chosen 53 = .ok (.invokevirtual 209, 3) := by decide +kernel
theorem dX12_chosen_56 : decode cX12_chosen 56 = .ok (.pop, 1) := by decide +kernel
theorem dX12_chosen_57 : decode cX12_chosen 57 = .ok (.aload_n 0, 1) := by decide +kernel
theorem dX12_chosen_58 : decode cX12_chosen 58 = .ok (.aload_n 0, 1) := by decide +kernel
theorem dX12_chosen_59 : decode cX12_chosen 59 = .ok (.getfield 64, 3) := by decide +kernel
theorem dX12_chosen_62 : decode cX12_chosen 62 = .ok (.aload_n 0, 1) := by decide +kernel
theorem dX12_chosen_63 : decode cX12_chosen 63 = .ok (.getfield 135, 3) := by decide +kernel
set_option maxRecDepth 20000 in
theorem ggX12_chosen_X12_become : GoodIn wsX12_chosen wsX12_become := goodIn_r _ [70, 71, 72, 22, 23, 3, 73, 74, 75, 76, 77, 78, 79, 80, 81, 82, 83, 84, 85, 86, 87, 88, 89, 90, 91, 92, 93, 94, 95, 96, 97, 98, 99, 100, 101, 102, 103, 104, 105, 106, 107, 108, 109, 110, 111, 112] rfl (by decide +kernel)
set_option maxRecDepth 20000 in
theorem gX12_chosen_X12_become : GoodIn wsX12_chosen (wsV RX12 154 RX12 yX12_become wsX12_become) := goodIn_app (goodIn_r _ [67, 68, 69, 12] rfl (by decide +kernel)) ggX12_chosen_X12_become
theorem dX12_chosen_66 : decode cX12_chosen 66 = .ok (.invokevirtual 154, 3) := by decide +kernel
theorem dX12_chosen_69 : decode cX12_chosen 69 = .ok (.iconst 1, 1) := by decide +kernel
theorem dX12_chosen_70 : decode cX12_chosen 70 = .ok (.ireturn, 1) := by decide +kernel
