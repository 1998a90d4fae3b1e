theorem dX12_rows_0 : decode cX12_rows 0 = .ok (.aload_n 0, 1) := by decide +kernel
theorem dX12_rows_1 : decode cX12_rows 1 = .ok (.iconst 0, 1) := by decide +kernel
theorem dX12_rows_2 : decode cX12_rows 2 = .ok (.putfield 85, 3) := by decide +kernel
theorem dX12_rows_5 : decode cX12_rows 5 = .ok (.aload_n 0, 1) := by decide +kernel
theorem dX12_rows_6 : decode cX12_rows 6 = .ok (.iconst (-1), 1) := by decide +kernel
theorem dX12_rows_7 : decode cX12_rows 7 = .ok (.putfield 55, 3) := by decide +kernel
theorem dX12_rows_10 : decode cX12_rows 10 = .ok (.iload_n 1, 1) := by decide +kernel
theorem dX12_rows_11 : decode cX12_rows 11 = .ok (.iconst 1, 1) := by decide +kernel
theorem dX12_rows_12 : decode cX12_rows 12 = .ok (.if_icmp .lt 8, 3) := by decide +kernel
theorem dX12_rows_20 : decode cX12_rows 20 = .ok (.iconst (-1), 1) := by decide +kernel
theorem dX12_rows_21 : decode cX12_rows 21 = .ok (.ireturn, 1) := by decide +kernel
theorem dX12_rows_15 : decode cX12_rows 15 = .ok (.iload_n 1, 1) := by decide +kernel
theorem dX12_rows_16 : decode cX12_rows 16 = .ok (.iconst 3, 1) := by decide +kernel
theorem dX12_rows_17 : decode cX12_rows 17 = .ok (.if_icmp .le 5, 3) := by decide +kernel
theorem dX12_rows_22 : decode cX12_rows 22 = .ok (.aload_n 0, 1) := by decide +kernel
theorem dX12_rows_23 : decode cX12_rows 23 = .ok (.iconst 0, 1) := by decide +kernel
theorem dX12_rows_24 : decode cX12_rows 24 = .ok (.putfield 180, 3) := by decide +kernel
theorem dX12_rows_27 : decode cX12_rows 27 = .ok (.iconst 1, 1) := by decide +kernel
theorem dX12_rows_28 : decode cX12_rows 28 = .ok (.istore_n 2, 1) := by decide +kernel
theorem dX12_rows_29 : decode cX12_rows 29 = .ok (.iload_n 2, 1) := by decide +kernel
theorem dX12_rows_30 : decode cX12_rows 30 = .ok (.iload_n 1, 1) := by decide +kernel
theorem dX12_rows_31 : decode cX12_rows 31 = .ok (.if_icmp .gt 177, 3) := by decide +kernel
theorem dX12_rows_208 : decode cX12_rows 208 = .ok (.aload_n 0, 1) := by decide +kernel
theorem dX12_rows_209 : decode cX12_rows 209 = .ok (.getfield 180, 3) := by decide +kernel
theorem dX12_rows_212 : decode cX12_rows 212 = .ok (.ireturn, 1) := by decide +kernel
theorem dX12_rows_34 : decode cX12_rows 34 = .ok (.aload_n 0, 1) := by decide +kernel
theorem dX12_rows_35 : decode cX12_rows 35 = .ok (.getfield 161, 3) := by decide +kernel
theorem dX12_rows_38 : decode cX12_rows 38 = .ok (.ifCond .ne 7, 3) := by decide +kernel
theorem dX12_rows_45 : decode cX12_rows 45 = .ok (.aload_n 0, 1) := by decide +kernel
theorem dX12_rows_46 : decode cX12_rows 46 = .ok (.getfield 161, 3) := by decide +kernel
theorem dX12_rows_49 : decode cX12_rows 49 = .ok (.iload_n 2, 1) := by decide +kernel
set_option maxRecDepth 20000 in
theorem ggX12_rows_X12_power : GoodIn wsX12_rows wsX12_power := goodIn_r _ [11] rfl (by decide +kernel)
set_option maxRecDepth 20000 in
theorem gX12_rows_X12_power : GoodIn wsX12_rows (va_wsS RX12 183 yX12_power wsX12_power) := goodIn_app (goodIn_r _ [8, 9, 10] rfl (by decide +kernel)) ggX12_rows_X12_power
theorem dX12_rows_50 : decode cX12_rows 50 = .ok (.invokestatic 183, 3) := by decide +kernel
theorem dX12_rows_53 : decode cX12_rows 53 = .ok (.istore_n 3, 1) := by decide +kernel
theorem dX12_rows_54 : decode cX12_rows 54 = .ok (.iconst 0, 1) := by decide +kernel
theorem dX12_rows_55 : decode cX12_rows 55 = .ok (.istore 4, 2) := by decide +kernel
theorem dX12_rows_57 : decode cX12_rows 57 = .ok (.iload 4, 2) := by decide +kernel
theorem dX12_rows_59 : decode cX12_rows 59 = .ok (.iload_n 3, 1) := by decide +kernel
theorem dX12_rows_60 : decode cX12_rows 60 = .ok (.if_icmp .ge 142, 3) := by decide +kernel
theorem dX12_rows_202 : decode cX12_rows 202 = .ok (.iinc 2 1, 3) := by decide +kernel
theorem dX12_rows_205 : decode cX12_rows 205 = .ok (.goto (-176), 3) := by decide +kernel
theorem dX12_rows_63 : decode cX12_rows 63 = .ok (.aload_n 0, 1) := by decide +kernel
theorem dX12_rows_64 : decode cX12_rows 64 = .ok (.iload 4, 2) := by decide +kernel
theorem dX12_rows_66 : decode cX12_rows 66 = .ok (.iload_n 2, 1) := by decide +kernel
set_option maxRecDepth 20000 in
theorem ggX12_rows_X12_makes : GoodIn wsX12_rows wsX12_makes := goodIn_r _ [15, 4, 16, 17, 18, 19, 20, 10, 21, 22, 7, 6, 23, 24, 25, 26, 27, 28, 29, 30, 31, 32, 33, 34, 35, 36, 37, 38, 39, 40, 41, 42, 43, 44, 45, 46, 47, 48, 49, 50, 51, 52, 53, 54, 55, 56, 57, 58, 59, 60, 61, 62, 63, 64, 65, 66, 67, 68, 69, 70, 71, 72, 73, 74, 90, 91, 92, 93, 94, 95, 96, 97, 98, 99, 100, 101, 102, 103, 104, 105, 106, 107, 108, 109, 110, 111, 112, 113, 114, 115, 116, 117, 118, 119, 120, 121, 122, 123, 124, 125, 126, 127, 128, 129] rfl (by decide +kernel)
set_option maxRecDepth 20000 in
theorem gX12_rows_X12_makes : GoodIn wsX12_rows (wsV RX12 186 RX12 yX12_makes wsX12_makes) := goodIn_app (goodIn_r _ [12, 13, 14, 10] rfl (by decide +kernel)) ggX12_rows_X12_makes
theorem dX12_rows_67 : decode cX12_rows 67 = .ok (.invokevirtual 186, 3) := by decide +kernel
theorem dX12_rows_70 : decode cX12_rows 70 = .ok (.ifCond .ne 6, 3) := by decide +kernel
theorem dX12_rows_76 : decode cX12_rows 76 = .ok (.bipush 6, 2) := by decide +kernel
theorem dX12_rows_78 : decode cX12_rows 78 = .ok (.aload_n 0, 1) := by decide +kernel
theorem dX12_rows_79 : decode cX12_rows 79 = .ok (.getfield 180, 3) := by decide +kernel
theorem dX12_rows_82 : decode cX12_rows 82 = .ok (.imul, 1) := by decide +kernel
theorem dX12_rows_83 : decode cX12_rows 83 = .ok (.istore 5, 2) := by decide +kernel
theorem dX12_rows_85 : decode cX12_rows 85 = .ok (.aload_n 0, 1) := by decide +kernel
theorem dX12_rows_86 : decode cX12_rows 86 = .ok (.getfield 36, 3) := by decide +kernel
theorem dX12_rows_89 : decode cX12_rows 89 = .ok (.iload 5, 2) := by decide +kernel
theorem dX12_rows_91 : decode cX12_rows 91 = .ok (.iload_n 2, 1) := by decide +kernel
theorem dX12_rows_92 : decode cX12_rows 92 = .ok (.iastore, 1) := by decide +kernel
theorem dX12_rows_93 : decode cX12_rows 93 = .ok (.iconst 0, 1) := by decide +kernel
theorem dX12_rows_94 : decode cX12_rows 94 = .ok (.istore 6, 2) := by decide +kernel
theorem dX12_rows_96 : decode cX12_rows 96 = .ok (.iload 6, 2) := by decide +kernel
theorem dX12_rows_98 : decode cX12_rows 98 = .ok (.iconst 3, 1) := by decide +kernel
theorem dX12_rows_99 : decode cX12_rows 99 = .ok (.if_icmp .ge 52, 3) := by decide +kernel
theorem dX12_rows_151 : decode cX12_rows 151 = .ok (.aload_n 0, 1) := by decide +kernel
theorem dX12_rows_152 : decode cX12_rows 152 = .ok (.getfield 36, 3) := by decide +kernel
theorem dX12_rows_155 : decode cX12_rows 155 = .ok (.iload 5, 2) := by decide +kernel
theorem dX12_rows_157 : decode cX12_rows 157 = .ok (.iconst 4, 1) := by decide +kernel
theorem dX12_rows_158 : decode cX12_rows 158 = .ok (.iadd, 1) := by decide +kernel
theorem dX12_rows_159 : decode cX12_rows 159 = .ok (.aload_n 0, 1) := by decide +kernel
theorem dX12_rows_160 : decode cX12_rows 160 = .ok (.aload_n 0, 1) := by decide +kernel
theorem dX12_rows_161 : decode cX12_rows 161 = .ok (.getfield 64, 3) := by decide +kernel
theorem dX12_rows_164 : decode cX12_rows 164 = .ok (.iconst 0, 1) := by decide +kernel
theorem dX12_rows_165 : decode cX12_rows 165 = .ok (.aload_n 0, 1) := by decide +kernel
theorem dX12_rows_166 : decode cX12_rows 166 = .ok (.getfield 135, 3) := by decide +kernel
set_option maxRecDepth 20000 in
theorem ggX12_rows_X12_costOf_ : GoodIn wsX12_rows wsX12_costOf_ := goodIn_r _ [78, 79, 80, 81, 10, 82, 83, 84, 85, 86, 87, 88, 89, 90, 91, 92, 93, 94, 95, 96, 97, 98, 99, 100, 101, 102, 103, 104, 105, 106, 107, 108, 109, 110, 111, 112, 113, 114, 115, 116, 117, 118, 119, 120, 121, 122, 123, 124, 125, 126, 127, 128, 129] rfl (by decide +kernel)
set_option maxRecDepth 20000 in
theorem gX12_rows_X12_costOf_ : GoodIn wsX12_rows (wsV RX12 189 RX12 yX12_costOf_ wsX12_costOf_) := goodIn_app (goodIn_r _ [75, 76, 77, 10] rfl (by decide +kernel)) ggX12_rows_X12_costOf_
theorem dX12_rows_169 : decode cX12_rows 169 = .ok (.invokevirtual 189, 3) := by decide +kernel
theorem dX12_rows_172 : decode cX12_rows 172 = .ok (.iastore, 1) := by decide +kernel
theorem dX12_rows_173 : decode cX12_rows 173 = .ok (.aload_n 0, 1) := by decide +kernel
theorem dX12_rows_174 : decode cX12_rows 174 = .ok (.getfield 36, 3) := by decide +kernel
theorem dX12_rows_177 : decode cX12_rows 177 = .ok (.iload 5, 2) := by decide +kernel
theorem dX12_rows_179 : decode cX12_rows 179 = .ok (.iconst 5, 1) := by decide +kernel
theorem dX12_rows_180 : decode cX12_rows 180 = .ok (.iadd, 1) := by decide +kernel
theorem dX12_rows_181 : decode cX12_rows 181 = .ok (.aload_n 0, 1) := by decide +kernel
theorem dX12_rows_182 : decode cX12_rows 182 = .ok (.getfield 135, 3) := by decide +kernel
theorem dX12_rows_185 : decode cX12_rows 185 = .ok (.iastore, 1) := by decide +kernel
theorem dX12_rows_186 : decode cX12_rows 186 = .ok (.aload_n 0, 1) := by decide +kernel
theorem dX12_rows_187 : decode cX12_rows 187 = .ok (.dup, 1) := by decide +kernel
theorem dX12_rows_188 : decode cX12_rows 188 = .ok (.getfield 180, 3) := by decide +kernel
theorem dX12_rows_191 : decode cX12_rows 191 = .ok (.iconst 1, 1) := by decide +kernel
theorem dX12_rows_192 : decode cX12_rows 192 = .ok (.iadd, 1) := by decide +kernel
theorem dX12_rows_193 : decode cX12_rows 193 = .ok (.putfield 180, 3) := by decide +kernel
theorem dX12_rows_196 : decode cX12_rows 196 = .ok (.iinc 4 1, 3) := by decide +kernel
theorem dX12_rows_199 : decode cX12_rows 199 = .ok (.goto (-142), 3) := by decide +kernel
theorem dX12_rows_102 : decode cX12_rows 102 = .ok (.aload_n 0, 1) := by decide +kernel
theorem dX12_rows_103 : decode cX12_rows 103 = .ok (.getfield 36, 3) := by decide +kernel
theorem dX12_rows_106 : decode cX12_rows 106 = .ok (.iload 5, 2) := by decide +kernel
theorem dX12_rows_108 : decode cX12_rows 108 = .ok (.iconst 1, 1) := by decide +kernel
theorem dX12_rows_109 : decode cX12_rows 109 = .ok (.iadd, 1) := by decide +kernel
theorem dX12_rows_110 : decode cX12_rows 110 = .ok (.iload 6, 2) := by decide +kernel
theorem dX12_rows_112 : decode cX12_rows 112 = .ok (.iadd, 1) := by decide +kernel
theorem dX12_rows_113 : decode cX12_rows 113 = .ok (.iload 6, 2) := by decide +kernel
theorem dX12_rows_115 : decode cX12_rows 115 = .ok (.iload_n 2, 1) := by decide +kernel
theorem dX12_rows_116 : decode cX12_rows 116 = .ok (.if_icmp .ge 27, 3) := by decide +kernel
theorem dX12_rows_143 : decode cX12_rows 143 = .ok (.iconst (-1), 1) := by decide +kernel
theorem dX12_rows_144 : decode cX12_rows 144 = .ok (.iastore, 1) := by decide +kernel
theorem dX12_rows_145 : decode cX12_rows 145 = .ok (.iinc 6 1, 3) := by decide +kernel
theorem dX12_rows_148 : decode cX12_rows 148 = .ok (.goto (-52), 3) := by decide +kernel
theorem dX12_rows_119 : decode cX12_rows 119 = .ok (.iload 4, 2) := by decide +kernel
theorem dX12_rows_121 : decode cX12_rows 121 = .ok (.aload_n 0, 1) := by decide +kernel
theorem dX12_rows_122 : decode cX12_rows 122 = .ok (.getfield 161, 3) := by decide +kernel
theorem dX12_rows_125 : decode cX12_rows 125 = .ok (.iload_n 2, 1) := by decide +kernel
theorem dX12_rows_126 : decode cX12_rows 126 = .ok (.iconst 1, 1) := by decide +kernel
theorem dX12_rows_127 : decode cX12_rows 127 = .ok (.isub, 1) := by decide +kernel
theorem dX12_rows_128 : decode cX12_rows 128 = .ok (.iload 6, 2) := by decide +kernel
theorem dX12_rows_130 : decode cX12_rows 130 = .ok (.isub, 1) := by decide +kernel
theorem dX12_rows_131 : decode cX12_rows 131 = .ok (.invokestatic 183, 3) := by decide +kernel
theorem dX12_rows_134 : decode cX12_rows 134 = .ok (.idiv, 1) := by decide +kernel
theorem dX12_rows_135 : decode cX12_rows 135 = .ok (.aload_n 0, 1) := by decide +kernel
theorem dX12_rows_136 : decode cX12_rows 136 = .ok (.getfield 161, 3) := by decide +kernel
theorem dX12_rows_139 : decode cX12_rows 139 = .ok (.irem, 1) := by decide +kernel
theorem dX12_rows_140 : decode cX12_rows 140 = .ok (.goto 4, 3) := by decide +kernel
theorem dX12_rows_73 : decode cX12_rows 73 = .ok (.goto 123, 3) := by decide +kernel
theorem dX12_rows_41 : decode cX12_rows 41 = .ok (.iconst 0, 1) := by decide +kernel
theorem dX12_rows_42 : decode cX12_rows 42 = .ok (.goto 11, 3) := by decide +kernel
theorem dX12_row_0 : decode cX12_row 0 = .ok (.aload_n 0, 1) := by decide +kernel
theorem dX12_row_1 : decode cX12_row 1 = .ok (.iconst 0, 1) := by decide +kernel
theorem dX12_row_2 : decode cX12_row 2 = .ok (.putfield 85, 3) := by decide +kernel
theorem dX12_row_5 : decode cX12_row 5 = .ok (.iload_n 1, 1) := by decide +kernel
theorem dX12_row_6 : decode cX12_row 6 = .ok (.ifCond .lt 35, 3) := by decide +kernel
theorem dX12_row_41 : decode cX12_row 41 = .ok (.iconst (-1), 1) := by decide +kernel
theorem dX12_row_42 : decode cX12_row 42 = .ok (.ireturn, 1) := by decide +kernel
theorem dX12_row_9 : decode cX12_row 9 = .ok (.iload_n 1, 1) := by decide +kernel
theorem dX12_row_10 : decode cX12_row 10 = .ok (.aload_n 0, 1) := by decide +kernel
theorem dX12_row_11 : decode cX12_row 11 = .ok (.getfield 180, 3) := by decide +kernel
theorem dX12_row_14 : decode cX12_row 14 = .ok (.if_icmp .ge 27, 3) := by decide +kernel
theorem dX12_row_17 : decode cX12_row 17 = .ok (.iload_n 2, 1) := by decide +kernel
theorem dX12_row_18 : decode cX12_row 18 = .ok (.ifCond .lt 23, 3) := by decide +kernel
theorem dX12_row_21 : decode cX12_row 21 = .ok (.iload_n 2, 1) := by decide +kernel
theorem dX12_row_22 : decode cX12_row 22 = .ok (.bipush 6, 2) := by decide +kernel
theorem dX12_row_24 : decode cX12_row 24 = .ok (.if_icmp .ge 17, 3) := by decide +kernel
theorem dX12_row_27 : decode cX12_row 27 = .ok (.aload_n 0, 1) := by decide +kernel
theorem dX12_row_28 : decode cX12_row 28 = .ok (.getfield 36, 3) := by decide +kernel
theorem dX12_row_31 : decode cX12_row 31 = .ok (.bipush 6, 2) := by decide +kernel
theorem dX12_row_33 : decode cX12_row 33 = .ok (.iload_n 1, 1) := by decide +kernel
theorem dX12_row_34 : decode cX12_row 34 = .ok (.imul, 1) := by decide +kernel
theorem dX12_row_35 : decode cX12_row 35 = .ok (.iload_n 2, 1) := by decide +kernel
theorem dX12_row_36 : decode cX12_row 36 = .ok (.iadd, 1) := by decide +kernel
theorem dX12_row_37 : decode cX12_row 37 = .ok (.iaload, 1) := by decide +kernel
theorem dX12_row_38 : decode cX12_row 38 = .ok (.goto 4, 3) := by decide +kernel
theorem dX12_isToldChoice_0 : decode cX12_isToldChoice 0 = .ok (.iload_n 1, 1) := by decide +kernel
theorem dX12_isToldChoice_1 : decode cX12_isToldChoice 1 = .ok (.ifCond .lt 22, 3) := by decide +kernel
theorem dX12_isToldChoice_23 : decode cX12_isToldChoice 23 = .ok (.iconst 0, 1) := by decide +kernel
theorem dX12_isToldChoice_24 : decode cX12_isToldChoice 24 = .ok (.ireturn, 1) := by decide +kernel
theorem dX12_isToldChoice_4 : decode cX12_isToldChoice 4 = .ok (.iload_n 1, 1) := by decide +kernel
theorem dX12_isToldChoice_5 : decode cX12_isToldChoice 5 = .ok (.aload_n 0, 1) := by decide +kernel
theorem dX12_isToldChoice_6 : decode cX12_isToldChoice 6 = .ok (.getfield 213, 3) := by decide +kernel
theorem dX12_isToldChoice_9 : decode cX12_isToldChoice 9 = .ok (.if_icmp .ge 14, 3) := by decide +kernel
theorem dX12_isToldChoice_12 : decode cX12_isToldChoice 12 = .ok (.iload_n 1, 1) := by decide +kernel
theorem dX12_isToldChoice_13 : decode cX12_isToldChoice 13 = .ok (.sipush 200, 3) := by decide +kernel
theorem dX12_isToldChoice_16 : decode cX12_isToldChoice 16 = .ok (.if_icmp .ge 7, 3) := by decide +kernel
theorem dX12_isToldChoice_19 : decode cX12_isToldChoice 19 = .ok (.iconst 1, 1) := by decide +kernel
theorem dX12_isToldChoice_20 : decode cX12_isToldChoice 20 = .ok (.goto 4, 3) := by decide +kernel
theorem dX12_choice_0 : decode cX12_choice 0 = .ok (.aload_n 0, 1) := by decide +kernel
theorem dX12_choice_1 : decode cX12_choice 1 = .ok (.iconst 0, 1) := by decide +kernel
theorem dX12_choice_2 : decode cX12_choice 2 = .ok (.putfield 85, 3) := by decide +kernel
theorem dX12_choice_5 : decode cX12_choice 5 = .ok (.aload_n 0, 1) := by decide +kernel
theorem dX12_choice_6 : decode cX12_choice 6 = .ok (.iload_n 1, 1) := by decide +kernel
set_option maxRecDepth 20000 in
theorem ggX12_choice_X12_isToldChoice : GoodIn wsX12_choice wsX12_isToldChoice := goodIn_r _ [7, 8, 9, 10, 11, 12, 13, 14, 15, 16, 17, 18, 19, 20, 21, 22, 23, 24, 25, 26, 27, 28, 29, 30, 31, 32, 33, 34, 35, 36, 37, 38, 39, 40, 41, 42, 43, 44, 45, 46, 47, 48] rfl (by decide +kernel)
set_option maxRecDepth 20000 in
theorem gX12_choice_X12_isToldChoice : GoodIn wsX12_choice (wsV RX12 222 RX12 yX12_isToldChoice wsX12_isToldChoice) := goodIn_app (goodIn_r _ [3, 4, 5, 6] rfl (by decide +kernel)) ggX12_choice_X12_isToldChoice
theorem dX12_choice_7 : decode cX12_choice 7 = .ok (.invokevirtual 222, 3) := by decide +kernel
theorem dX12_choice_10 : decode cX12_choice 10 = .ok (.ifCond .eq 25, 3) := by decide +kernel
theorem dX12_choice_35 : decode cX12_choice 35 = .ok (.iconst (-1), 1) := by decide +kernel
theorem dX12_choice_36 : decode cX12_choice 36 = .ok (.ireturn, 1) := by decide +kernel
theorem dX12_choice_13 : decode cX12_choice 13 = .ok (.iload_n 2, 1) := by decide +kernel
theorem dX12_choice_14 : decode cX12_choice 14 = .ok (.ifCond .lt 21, 3) := by decide +kernel
theorem dX12_choice_17 : decode cX12_choice 17 = .ok (.iload_n 2, 1) := by decide +kernel
theorem dX12_choice_18 : decode cX12_choice 18 = .ok (.iconst 4, 1) := by decide +kernel
theorem dX12_choice_19 : decode cX12_choice 19 = .ok (.if_icmp .ge 16, 3) := by decide +kernel
theorem dX12_choice_22 : decode cX12_choice 22 = .ok (.aload_n 0, 1) := by decide +kernel
theorem dX12_choice_23 : decode cX12_choice 23 = .ok (.getfield 48, 3) := by decide +kernel
theorem dX12_choice_26 : decode cX12_choice 26 = .ok (.iconst 4, 1) := by decide +kernel
theorem dX12_choice_27 : decode cX12_choice 27 = .ok (.iload_n 1, 1) := by decide +kernel
theorem dX12_choice_28 : decode cX12_choice 28 = .ok (.imul, 1) := by decide +kernel
theorem dX12_choice_29 : decode cX12_choice 29 = .ok (.iload_n 2, 1) := by decide +kernel
theorem dX12_choice_30 : decode cX12_choice 30 = .ok (.iadd, 1) := by decide +kernel
theorem dX12_choice_31 : decode cX12_choice 31 = .ok (.iaload, 1) := by decide +kernel
theorem dX12_choice_32 : decode cX12_choice 32 = .ok (.goto 4, 3) := by decide +kernel
