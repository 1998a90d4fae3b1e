theorem dX9_nameHarms_0 : decode cX9_nameHarms 0 = .ok (.iload_n 1, 1) := by decide +kernel
theorem dX9_nameHarms_1 : decode cX9_nameHarms 1 = .ok (.ifCond .lt 42, 3) := by decide +kernel
theorem dX9_nameHarms_43 : decode cX9_nameHarms 43 = .ok (.return_, 1) := by decide +kernel
theorem dX9_nameHarms_4 : decode cX9_nameHarms 4 = .ok (.iload_n 1, 1) := by decide +kernel
theorem dX9_nameHarms_5 : decode cX9_nameHarms 5 = .ok (.sipush 258, 3) := by decide +kernel
theorem dX9_nameHarms_8 : decode cX9_nameHarms 8 = .ok (.if_icmp .ge 35, 3) := by decide +kernel
theorem dX9_nameHarms_11 : decode cX9_nameHarms 11 = .ok (.aload_n 0, 1) := by decide +kernel
theorem dX9_nameHarms_12 : decode cX9_nameHarms 12 = .ok (.getfield 33, 3) := by decide +kernel
theorem dX9_nameHarms_15 : decode cX9_nameHarms 15 = .ok (.iload_n 1, 1) := by decide +kernel
theorem dX9_nameHarms_16 : decode cX9_nameHarms 16 = .ok (.iconst 3, 1) := by decide +kernel
theorem dX9_nameHarms_17 : decode cX9_nameHarms 17 = .ok (.imul, 1) := by decide +kernel
theorem dX9_nameHarms_18 : decode cX9_nameHarms 18 = .ok (.iload_n 2, 1) := by decide +kernel
theorem dX9_nameHarms_19 : decode cX9_nameHarms 19 = .ok (.iastore, 1) := by decide +kernel
theorem dX9_nameHarms_20 : decode cX9_nameHarms 20 = .ok (.aload_n 0, 1) := by decide +kernel
theorem dX9_nameHarms_21 : decode cX9_nameHarms 21 = .ok (.getfield 33, 3) := by decide +kernel
theorem dX9_nameHarms_24 : decode cX9_nameHarms 24 = .ok (.iload_n 1, 1) := by decide +kernel
theorem dX9_nameHarms_25 : decode cX9_nameHarms 25 = .ok (.iconst 3, 1) := by decide +kernel
theorem dX9_nameHarms_26 : decode cX9_nameHarms 26 = .ok (.imul, 1) := by decide +kernel
theorem dX9_nameHarms_27 : decode cX9_nameHarms 27 = .ok (.iconst 1, 1) := by decide +kernel
theorem dX9_nameHarms_28 : decode cX9_nameHarms 28 = .ok (.iadd, 1) := by decide +kernel
theorem dX9_nameHarms_29 : decode cX9_nameHarms 29 = .ok (.iload_n 3, 1) := by decide +kernel
theorem dX9_nameHarms_30 : decode cX9_nameHarms 30 = .ok (.iastore, 1) := by decide +kernel
theorem dX9_nameHarms_31 : decode cX9_nameHarms 31 = .ok (.aload_n 0, 1) := by decide +kernel
theorem dX9_nameHarms_32 : decode cX9_nameHarms 32 = .ok (.getfield 33, 3) := by decide +kernel
theorem dX9_nameHarms_35 : decode cX9_nameHarms 35 = .ok (.iload_n 1, 1) := by decide +kernel
theorem dX9_nameHarms_36 : decode cX9_nameHarms 36 = .ok (.iconst 3, 1) := by decide +kernel
theorem dX9_nameHarms_37 : decode cX9_nameHarms 37 = .ok (.imul, 1) := by decide +kernel
theorem dX9_nameHarms_38 : decode cX9_nameHarms 38 = .ok (.iconst 2, 1) := by decide +kernel
theorem dX9_nameHarms_39 : decode cX9_nameHarms 39 = .ok (.iadd, 1) := by decide +kernel
theorem dX9_nameHarms_40 : decode cX9_nameHarms 40 = .ok (.iload 4, 2) := by decide +kernel
theorem dX9_nameHarms_42 : decode cX9_nameHarms 42 = .ok (.iastore, 1) := by decide +kernel
theorem dX9_note_0 : decode cX9_note 0 = .ok (.iload_n 1, 1) := by decide +kernel
theorem dX9_note_1 : decode cX9_note 1 = .ok (.ifCond .lt 34, 3) := by decide +kernel
theorem dX9_note_35 : decode cX9_note 35 = .ok (.return_, 1) := by decide +kernel
theorem dX9_note_4 : decode cX9_note 4 = .ok (.iload_n 1, 1) := by decide +kernel
theorem dX9_note_5 : decode cX9_note 5 = .ok (.sipush 258, 3) := by decide +kernel
theorem dX9_note_8 : decode cX9_note 8 = .ok (.if_icmp .ge 27, 3) := by decide +kernel
theorem dX9_note_11 : decode cX9_note 11 = .ok (.aload_n 0, 1) := by decide +kernel
theorem dX9_note_12 : decode cX9_note 12 = .ok (.getfield 26, 3) := by decide +kernel
theorem dX9_note_15 : decode cX9_note 15 = .ok (.iload_n 1, 1) := by decide +kernel
theorem dX9_note_16 : decode cX9_note 16 = .ok (.aload_n 0, 1) := by decide +kernel
theorem dX9_note_17 : decode cX9_note 17 = .ok (.getfield 49, 3) := by decide +kernel
theorem dX9_note_20 : decode cX9_note 20 = .ok (.aload_n 2, 1) := by decide +kernel
set_option maxRecDepth 20000 in
theorem ggX9_note_X3_ofText : GoodIn wsX9_note wsX3_ofText := goodIn_r _ [8, 9, 10, 11, 12, 13, 14, 15, 16, 17, 18, 19, 20, 21, 22, 7, 23, 24, 25, 26, 27, 28, 29, 30, 31, 32, 33, 34, 35, 36, 37, 38, 39, 40, 54, 55, 56, 57, 58] rfl (by decide +kernel)
set_option maxRecDepth 20000 in
theorem gX9_note_X3_ofText : GoodIn wsX9_note (wsV RX9 81 RX3 yX3_ofText wsX3_ofText) := goodIn_app (goodIn_r _ [4, 5, 6, 7] rfl (by decide +kernel)) ggX9_note_X3_ofText
theorem dX9_note_21 : decode cX9_note 21 = .ok (.invokevirtual 81, 3) := by decide +kernel
theorem dX9_note_24 : decode cX9_note 24 = .ok (.iastore, 1) := by decide +kernel
theorem dX9_note_25 : decode cX9_note 25 = .ok (.aload_n 0, 1) := by decide +kernel
theorem dX9_note_26 : decode cX9_note 26 = .ok (.getfield 30, 3) := by decide +kernel
theorem dX9_note_29 : decode cX9_note 29 = .ok (.iload_n 1, 1) := by decide +kernel
theorem dX9_note_30 : decode cX9_note 30 = .ok (.aload_n 2, 1) := by decide +kernel
set_option maxRecDepth 20000 in
theorem ggX9_note_X5_length : GoodIn wsX9_note wsX5_length := goodIn_r _ [13, 14, 54, 55] rfl (by decide +kernel)
set_option maxRecDepth 20000 in
theorem gX9_note_X5_length : GoodIn wsX9_note (wsV RX9 87 RX5 yX5_length wsX5_length) := goodIn_app (goodIn_r _ [41, 10, 11, 12] rfl (by decide +kernel)) ggX9_note_X5_length
theorem dX9_note_31 : decode cX9_note 31 = .ok (.invokevirtual 87, 3) := by decide +kernel
theorem dX9_note_34 : decode cX9_note 34 = .ok (.iastore, 1) := by decide +kernel
theorem dX9_find_0 : decode cX9_find 0 = .ok (.aload_n 0, 1) := by decide +kernel
theorem dX9_find_1 : decode cX9_find 1 = .ok (.getfield 26, 3) := by decide +kernel
theorem dX9_find_4 : decode cX9_find 4 = .ok (.iconst (-1), 1) := by decide +kernel
set_option maxRecDepth 20000 in
theorem ggX9_find_J7_fill_53178 : GoodIn wsX9_find wsJ7_fill_53178 := goodIn_r _ [9] rfl (by decide +kernel)
set_option maxRecDepth 20000 in
theorem gX9_find_J7_fill_53178 : GoodIn wsX9_find (va_wsS RX9 53 yJ7_fill_53178 wsJ7_fill_53178) := goodIn_app (goodIn_r _ [6, 7, 8] rfl (by decide +kernel)) ggX9_find_J7_fill_53178
theorem dX9_find_5 : decode cX9_find 5 = .ok (.invokestatic 53, 3) := by decide +kernel
theorem dX9_find_8 : decode cX9_find 8 = .ok (.aload_n 0, 1) := by decide +kernel
theorem dX9_find_9 : decode cX9_find 9 = .ok (.getfield 45, 3) := by decide +kernel
set_option maxRecDepth 20000 in
theorem ggX9_find_X4_length : GoodIn wsX9_find wsX4_length := goodIn_r _ [14, 15, 183, 184, 185, 186] rfl (by decide +kernel)
set_option maxRecDepth 20000 in
theorem gX9_find_X4_length : GoodIn wsX9_find (wsV RX9 63 RX4 yX4_length wsX4_length) := goodIn_app (goodIn_r _ [10, 11, 12, 13] rfl (by decide +kernel)) ggX9_find_X4_length
theorem dX9_find_12 : decode cX9_find 12 = .ok (.invokevirtual 63, 3) := by decide +kernel
theorem dX9_find_15 : decode cX9_find 15 = .ok (.istore_n 3, 1) := by decide +kernel
theorem dX9_find_16 : decode cX9_find 16 = .ok (.iconst 0, 1) := by decide +kernel
theorem dX9_find_17 : decode cX9_find 17 = .ok (.istore 4, 2) := by decide +kernel
theorem dX9_find_19 : decode cX9_find 19 = .ok (.iload 4, 2) := by decide +kernel
theorem dX9_find_21 : decode cX9_find 21 = .ok (.iload_n 3, 1) := by decide +kernel
theorem dX9_find_22 : decode cX9_find 22 = .ok (.if_icmp .ge 206, 3) := by decide +kernel
theorem dX9_find_228 : decode cX9_find 228 = .ok (.return_, 1) := by decide +kernel
theorem dX9_find_25 : decode cX9_find 25 = .ok (.aload_n 0, 1) := by decide +kernel
theorem dX9_find_26 : decode cX9_find 26 = .ok (.getfield 45, 3) := by decide +kernel
theorem dX9_find_29 : decode cX9_find 29 = .ok (.iload 4, 2) := by decide +kernel
theorem dX9_find_31 : decode cX9_find 31 = .ok (.aload_n 2, 1) := by decide +kernel
theorem dX9_find_32 : decode cX9_find 32 = .ok (.aload_n 0, 1) := by decide +kernel
theorem dX9_find_33 : decode cX9_find 33 = .ok (.getfield 14, 3) := by decide +kernel
set_option maxRecDepth 20000 in
theorem ggX9_find_X4_takeOff : GoodIn wsX9_find wsX4_takeOff := goodIn_r _ [19, 15, 20, 21, 22, 23, 24, 25, 26, 27, 28, 29, 30, 31, 32, 33, 34, 35, 36, 37, 38, 39, 40, 41, 42, 43, 44, 45, 46, 47, 48, 49, 50, 51, 52, 53, 54, 55, 56, 57, 58, 59, 60, 61, 62, 63, 64, 65, 66, 67, 68, 69, 70, 71, 72, 73, 74, 75, 76, 77, 78, 79, 80, 81, 82, 83, 84, 85, 86, 87, 88, 89, 90, 91, 92, 93, 94, 95, 96, 97, 98, 99, 100, 101, 102, 103, 104, 105, 106, 107, 108, 109, 110, 111, 112, 113, 114, 115, 116, 117, 118, 119, 120, 121, 122, 123, 124, 125, 126, 127, 128, 129, 183, 184, 185, 186, 187, 188, 189, 190, 191, 192, 193, 194, 195, 196, 197] rfl (by decide +kernel)
set_option maxRecDepth 20000 in
theorem gX9_find_X4_takeOff : GoodIn wsX9_find (wsV RX9 69 RX4 yX4_takeOff wsX4_takeOff) := goodIn_app (goodIn_r _ [16, 17, 18, 13] rfl (by decide +kernel)) ggX9_find_X4_takeOff
theorem dX9_find_36 : decode cX9_find 36 = .ok (.invokevirtual 69, 3) := by decide +kernel
theorem dX9_find_39 : decode cX9_find 39 = .ok (.ifCond .ne 6, 3) := by decide +kernel
theorem dX9_find_45 : decode cX9_find 45 = .ok (.aload_n 0, 1) := by decide +kernel
theorem dX9_find_46 : decode cX9_find 46 = .ok (.iload 4, 2) := by decide +kernel
theorem dX9_find_48 : decode cX9_find 48 = .ok (.aload_n 0, 1) := by decide +kernel
theorem dX9_find_49 : decode cX9_find 49 = .ok (.getfield 14, 3) := by decide +kernel
set_option maxRecDepth 20000 in
theorem ggX9_find_X9_note : GoodIn wsX9_find wsX9_note := goodIn_r _ [134, 1, 135, 136, 137, 138, 139, 140, 141, 142, 42, 43, 38, 44, 40, 143, 46, 47, 48, 49, 144, 145, 146, 147, 148, 149, 150, 151, 152, 153, 154, 155, 156, 157, 158, 159, 160, 161, 162, 163, 164, 165, 171, 172, 173, 174, 175, 176, 177, 178, 179, 180, 181, 182, 190, 191, 198, 199, 200] rfl (by decide +kernel)
set_option maxRecDepth 20000 in
theorem gX9_find_X9_note : GoodIn wsX9_find (wsV RX9 73 RX9 yX9_note wsX9_note) := goodIn_app (goodIn_r _ [130, 131, 132, 133] rfl (by decide +kernel)) ggX9_find_X9_note
theorem dX9_find_52 : decode cX9_find 52 = .ok (.invokevirtual 73, 3) := by decide +kernel
theorem dX9_find_55 : decode cX9_find 55 = .ok (.aload_n 0, 1) := by decide +kernel
theorem dX9_find_56 : decode cX9_find 56 = .ok (.iload 4, 2) := by decide +kernel
theorem dX9_find_58 : decode cX9_find 58 = .ok (.iload 4, 2) := by decide +kernel
theorem dX9_find_60 : decode cX9_find 60 = .ok (.iconst (-1), 1) := by decide +kernel
theorem dX9_find_61 : decode cX9_find 61 = .ok (.iconst (-1), 1) := by decide +kernel
set_option maxRecDepth 20000 in
theorem ggX9_find_X9_nameHarms : GoodIn wsX9_find wsX9_nameHarms := goodIn_r _ [169, 170, 171, 172, 173, 174, 175, 176, 177, 178, 179, 180, 181, 182] rfl (by decide +kernel)
set_option maxRecDepth 20000 in
theorem gX9_find_X9_nameHarms : GoodIn wsX9_find (wsV RX9 77 RX9 yX9_nameHarms wsX9_nameHarms) := goodIn_app (goodIn_r _ [166, 167, 168, 133] rfl (by decide +kernel)) ggX9_find_X9_nameHarms
theorem dX9_find_62 : decode cX9_find 62 = .ok (.invokevirtual 77, 3) := by decide +kernel
theorem dX9_find_65 : decode cX9_find 65 = .ok (.iconst 0, 1) := by decide +kernel
theorem dX9_find_66 : decode cX9_find 66 = .ok (.istore 5, 2) := by decide +kernel
theorem dX9_find_68 : decode cX9_find 68 = .ok (.iload_n 1, 1) := by decide +kernel
theorem dX9_find_69 : decode cX9_find 69 = .ok (.iconst 1, 1) := by decide +kernel
theorem dX9_find_70 : decode cX9_find 70 = .ok (.if_icmp .le 152, 3) := by decide +kernel
theorem dX9_find_222 : decode cX9_find 222 = .ok (.iinc 4 1, 3) := by decide +kernel
theorem dX9_find_225 : decode cX9_find 225 = .ok (.goto (-206), 3) := by decide +kernel
theorem dX9_find_73 : decode cX9_find 73 = .ok (.iload 5, 2) := by decide +kernel
theorem dX9_find_75 : decode cX9_find 75 = .ok (.iload_n 3, 1) := by decide +kernel
theorem dX9_find_76 : decode cX9_find 76 = .ok (.if_icmp .ge 146, 3) := by decide +kernel
theorem dX9_find_79 : decode cX9_find 79 = .ok (.aload_n 0, 1) := by decide +kernel
theorem dX9_find_80 : decode cX9_find 80 = .ok (.getfield 45, 3) := by decide +kernel
theorem dX9_find_83 : decode cX9_find 83 = .ok (.iload 5, 2) := by decide +kernel
theorem dX9_find_85 : decode cX9_find 85 = .ok (.aload_n 0, 1) := by decide +kernel
theorem dX9_find_86 : decode cX9_find 86 = .ok (.getfield 14, 3) := by decide +kernel
theorem dX9_find_89 : decode cX9_find 89 = .ok (.aload_n 0, 1) := by decide +kernel
theorem dX9_find_90 : decode cX9_find 90 = .ok (.getfield 20, 3) := by decide +kernel
theorem dX9_find_93 : decode cX9_find 93 = .ok (.invokevirtual 69, 3) := by decide +kernel
theorem dX9_find_96 : decode cX9_find 96 = .ok (.ifCond .ne 6, 3) := by decide +kernel
theorem dX9_find_102 : decode cX9_find 102 = .ok (.iload_n 3, 1) := by decide +kernel
theorem dX9_find_103 : decode cX9_find 103 = .ok (.iload 5, 2) := by decide +kernel
theorem dX9_find_105 : decode cX9_find 105 = .ok (.iload_n 3, 1) := by decide +kernel
theorem dX9_find_106 : decode cX9_find 106 = .ok (.imul, 1) := by decide +kernel
theorem dX9_find_107 : decode cX9_find 107 = .ok (.iadd, 1) := by decide +kernel
theorem dX9_find_108 : decode cX9_find 108 = .ok (.iload 4, 2) := by decide +kernel
theorem dX9_find_110 : decode cX9_find 110 = .ok (.iadd, 1) := by decide +kernel
theorem dX9_find_111 : decode cX9_find 111 = .ok (.istore 6, 2) := by decide +kernel
theorem dX9_find_113 : decode cX9_find 113 = .ok (.aload_n 0, 1) := by decide +kernel
theorem dX9_find_114 : decode cX9_find 114 = .ok (.iload 6, 2) := by decide +kernel
theorem dX9_find_116 : decode cX9_find 116 = .ok (.aload_n 0, 1) := by decide +kernel
theorem dX9_find_117 : decode cX9_find 117 = .ok (.getfield 20, 3) := by decide +kernel
theorem dX9_find_120 : decode cX9_find 120 = .ok (.invokevirtual 73, 3) := by decide +kernel
theorem dX9_find_123 : decode cX9_find 123 = .ok (.aload_n 0, 1) := by decide +kernel
theorem dX9_find_124 : decode cX9_find 124 = .ok (.iload 6, 2) := by decide +kernel
theorem dX9_find_126 : decode cX9_find 126 = .ok (.iload 5, 2) := by decide +kernel
theorem dX9_find_128 : decode cX9_find 128 = .ok (.iload 4, 2) := by decide +kernel
theorem dX9_find_130 : decode cX9_find 130 = .ok (.iconst (-1), 1) := by decide +kernel
theorem dX9_find_131 : decode cX9_find 131 = .ok (.invokevirtual 77, 3) := by decide +kernel
theorem dX9_find_134 : decode cX9_find 134 = .ok (.iconst 0, 1) := by decide +kernel
theorem dX9_find_135 : decode cX9_find 135 = .ok (.istore 7, 2) := by decide +kernel
theorem dX9_find_137 : decode cX9_find 137 = .ok (.iload_n 1, 1) := by decide +kernel
theorem dX9_find_138 : decode cX9_find 138 = .ok (.iconst 2, 1) := by decide +kernel
theorem dX9_find_139 : decode cX9_find 139 = .ok (.if_icmp .le 77, 3) := by decide +kernel
theorem dX9_find_216 : decode cX9_find 216 = .ok (.iinc 5 1, 3) := by decide +kernel
theorem dX9_find_219 : decode cX9_find 219 = .ok (.goto (-151), 3) := by decide +kernel
theorem dX9_find_142 : decode cX9_find 142 = .ok (.iload 7, 2) := by decide +kernel
theorem dX9_find_144 : decode cX9_find 144 = .ok (.iload_n 3, 1) := by decide +kernel
theorem dX9_find_145 : decode cX9_find 145 = .ok (.if_icmp .ge 71, 3) := by decide +kernel
theorem dX9_find_148 : decode cX9_find 148 = .ok (.aload_n 0, 1) := by decide +kernel
theorem dX9_find_149 : decode cX9_find 149 = .ok (.getfield 45, 3) := by decide +kernel
theorem dX9_find_152 : decode cX9_find 152 = .ok (.iload 7, 2) := by decide +kernel
theorem dX9_find_154 : decode cX9_find 154 = .ok (.aload_n 0, 1) := by decide +kernel
theorem dX9_find_155 : decode cX9_find 155 = .ok (.getfield 20, 3) := by decide +kernel
theorem dX9_find_158 : decode cX9_find 158 = .ok (.aload_n 0, 1) := by decide +kernel
theorem dX9_find_159 : decode cX9_find 159 = .ok (.getfield 23, 3) := by decide +kernel
theorem dX9_find_162 : decode cX9_find 162 = .ok (.invokevirtual 69, 3) := by decide +kernel
theorem dX9_find_165 : decode cX9_find 165 = .ok (.ifCond .eq 45, 3) := by decide +kernel
theorem dX9_find_210 : decode cX9_find 210 = .ok (.iinc 7 1, 3) := by decide +kernel
theorem dX9_find_213 : decode cX9_find 213 = .ok (.goto (-76), 3) := by decide +kernel
theorem dX9_find_168 : decode cX9_find 168 = .ok (.iload_n 3, 1) := by decide +kernel
theorem dX9_find_169 : decode cX9_find 169 = .ok (.iload_n 3, 1) := by decide +kernel
theorem dX9_find_170 : decode cX9_find 170 = .ok (.iload_n 3, 1) := by decide +kernel
theorem dX9_find_171 : decode cX9_find 171 = .ok (.imul, 1) := by decide +kernel
theorem dX9_find_172 : decode cX9_find 172 = .ok (.iadd, 1) := by decide +kernel
theorem dX9_find_173 : decode cX9_find 173 = .ok (.iload 7, 2) := by decide +kernel
theorem dX9_find_175 : decode cX9_find 175 = .ok (.iload_n 3, 1) := by decide +kernel
theorem dX9_find_176 : decode cX9_find 176 = .ok (.imul, 1) := by decide +kernel
theorem dX9_find_177 : decode cX9_find 177 = .ok (.iload 5, 2) := by decide +kernel
theorem dX9_find_179 : decode cX9_find 179 = .ok (.iadd, 1) := by decide +kernel
theorem dX9_find_180 : decode cX9_find 180 = .ok (.iload_n 3, 1) := by decide +kernel
theorem dX9_find_181 : decode cX9_find 181 = .ok (.imul, 1) := by decide +kernel
theorem dX9_find_182 : decode cX9_find 182 = .ok (.iadd, 1) := by decide +kernel
theorem dX9_find_183 : decode cX9_find 183 = .ok (.iload 4, 2) := by decide +kernel
theorem dX9_find_185 : decode cX9_find 185 = .ok (.iadd, 1) := by decide +kernel
theorem dX9_find_186 : decode cX9_find 186 = .ok (.istore 8, 2) := by decide +kernel
theorem dX9_find_188 : decode cX9_find 188 = .ok (.aload_n 0, 1) := by decide +kernel
theorem dX9_find_189 : decode cX9_find 189 = .ok (.iload 8, 2) := by decide +kernel
theorem dX9_find_191 : decode cX9_find 191 = .ok (.aload_n 0, 1) := by decide +kernel
theorem dX9_find_192 : decode cX9_find 192 = .ok (.getfield 23, 3) := by decide +kernel
theorem dX9_find_195 : decode cX9_find 195 = .ok (.invokevirtual 73, 3) := by decide +kernel
theorem dX9_find_198 : decode cX9_find 198 = .ok (.aload_n 0, 1) := by decide +kernel
theorem dX9_find_199 : decode cX9_find 199 = .ok (.iload 8, 2) := by decide +kernel
theorem dX9_find_201 : decode cX9_find 201 = .ok (.iload 7, 2) := by decide +kernel
theorem dX9_find_203 : decode cX9_find 203 = .ok (.iload 5, 2) := by decide +kernel
theorem dX9_find_205 : decode cX9_find 205 = .ok (.iload 4, 2) := by decide +kernel
theorem dX9_find_207 : decode cX9_find 207 = .ok (.invokevirtual 77, 3) := by decide +kernel
theorem dX9_find_99 : decode cX9_find 99 = .ok (.goto 117, 3) := by decide +kernel
theorem dX9_find_42 : decode cX9_find 42 = .ok (.goto 180, 3) := by decide +kernel
theorem dX9_keepFound_0 : decode cX9_keepFound 0 = .ok (.aload_n 0, 1) := by decide +kernel
theorem dX9_keepFound_1 : decode cX9_keepFound 1 = .ok (.iconst 0, 1) := by decide +kernel
theorem dX9_keepFound_2 : decode cX9_keepFound 2 = .ok (.putfield 59, 3) := by decide +kernel
theorem dX9_keepFound_5 : decode cX9_keepFound 5 = .ok (.iconst 0, 1) := by decide +kernel
theorem dX9_keepFound_6 : decode cX9_keepFound 6 = .ok (.istore_n 1, 1) := by decide +kernel
theorem dX9_keepFound_7 : decode cX9_keepFound 7 = .ok (.iload_n 1, 1) := by decide +kernel
theorem dX9_keepFound_8 : decode cX9_keepFound 8 = .ok (.sipush 258, 3) := by decide +kernel
theorem dX9_keepFound_11 : decode cX9_keepFound 11 = .ok (.if_icmp .ge 95, 3) := by decide +kernel
theorem dX9_keepFound_106 : decode cX9_keepFound 106 = .ok (.aload_n 0, 1) := by decide +kernel
theorem dX9_keepFound_107 : decode cX9_keepFound 107 = .ok (.getfield 59, 3) := by decide +kernel
theorem dX9_keepFound_110 : decode cX9_keepFound 110 = .ok (.ireturn, 1) := by decide +kernel
theorem dX9_keepFound_14 : decode cX9_keepFound 14 = .ok (.aload_n 0, 1) := by decide +kernel
theorem dX9_keepFound_15 : decode cX9_keepFound 15 = .ok (.getfield 26, 3) := by decide +kernel
theorem dX9_keepFound_18 : decode cX9_keepFound 18 = .ok (.iload_n 1, 1) := by decide +kernel
theorem dX9_keepFound_19 : decode cX9_keepFound 19 = .ok (.iaload, 1) := by decide +kernel
theorem dX9_keepFound_20 : decode cX9_keepFound 20 = .ok (.iconst (-1), 1) := by decide +kernel
theorem dX9_keepFound_21 : decode cX9_keepFound 21 = .ok (.if_icmp .eq 79, 3) := by decide +kernel
theorem dX9_keepFound_100 : decode cX9_keepFound 100 = .ok (.iinc 1 1, 3) := by decide +kernel
theorem dX9_keepFound_103 : decode cX9_keepFound 103 = .ok (.goto (-96), 3) := by decide +kernel
theorem dX9_keepFound_24 : decode cX9_keepFound 24 = .ok (.aload_n 0, 1) := by decide +kernel
theorem dX9_keepFound_25 : decode cX9_keepFound 25 = .ok (.getfield 36, 3) := by decide +kernel
theorem dX9_keepFound_28 : decode cX9_keepFound 28 = .ok (.aload_n 0, 1) := by decide +kernel
theorem dX9_keepFound_29 : decode cX9_keepFound 29 = .ok (.getfield 59, 3) := by decide +kernel
theorem dX9_keepFound_32 : decode cX9_keepFound 32 = .ok (.aload_n 0, 1) := by decide +kernel
theorem dX9_keepFound_33 : decode cX9_keepFound 33 = .ok (.getfield 26, 3) := by decide +kernel
theorem dX9_keepFound_36 : decode cX9_keepFound 36 = .ok (.iload_n 1, 1) := by decide +kernel
theorem dX9_keepFound_37 : decode cX9_keepFound 37 = .ok (.iaload, 1) := by decide +kernel
theorem dX9_keepFound_38 : decode cX9_keepFound 38 = .ok (.iastore, 1) := by decide +kernel
theorem dX9_keepFound_39 : decode cX9_keepFound 39 = .ok (.aload_n 0, 1) := by decide +kernel
theorem dX9_keepFound_40 : decode cX9_keepFound 40 = .ok (.getfield 39, 3) := by decide +kernel
theorem dX9_keepFound_43 : decode cX9_keepFound 43 = .ok (.aload_n 0, 1) := by decide +kernel
theorem dX9_keepFound_44 : decode cX9_keepFound 44 = .ok (.getfield 59, 3) := by decide +kernel
theorem dX9_keepFound_47 : decode cX9_keepFound 47 = .ok (.aload_n 0, 1) := by decide +kernel
theorem dX9_keepFound_48 : decode cX9_keepFound 48 = .ok (.getfield 30, 3) := by decide +kernel
theorem dX9_keepFound_51 : decode cX9_keepFound 51 = .ok (.iload_n 1, 1) := by decide +kernel
theorem dX9_keepFound_52 : decode cX9_keepFound 52 = .ok (.iaload, 1) := by decide +kernel
theorem dX9_keepFound_53 : decode cX9_keepFound 53 = .ok (.iastore, 1) := by decide +kernel
theorem dX9_keepFound_54 : decode cX9_keepFound 54 = .ok (.iconst 0, 1) := by decide +kernel
theorem dX9_keepFound_55 : decode cX9_keepFound 55 = .ok (.istore_n 2, 1) := by decide +kernel
theorem dX9_keepFound_56 : decode cX9_keepFound 56 = .ok (.iload_n 2, 1) := by decide +kernel
theorem dX9_keepFound_57 : decode cX9_keepFound 57 = .ok (.iconst 3, 1) := by decide +kernel
theorem dX9_keepFound_58 : decode cX9_keepFound 58 = .ok (.if_icmp .ge 32, 3) := by decide +kernel
theorem dX9_keepFound_90 : decode cX9_keepFound 90 = .ok (.aload_n 0, 1) := by decide +kernel
theorem dX9_keepFound_91 : decode cX9_keepFound 91 = .ok (.dup, 1) := by decide +kernel
theorem dX9_keepFound_92 : decode cX9_keepFound 92 = .ok (.getfield 59, 3) := by decide +kernel
theorem dX9_keepFound_95 : decode cX9_keepFound 95 = .ok (.iconst 1, 1) := by decide +kernel
theorem dX9_keepFound_96 : decode cX9_keepFound 96 = .ok (.iadd, 1) := by decide +kernel
theorem dX9_keepFound_97 : decode cX9_keepFound 97 = .ok (.putfield 59, 3) := by decide +kernel
theorem dX9_keepFound_61 : decode cX9_keepFound 61 = .ok (.aload_n 0, 1) := by decide +kernel
theorem dX9_keepFound_62 : decode cX9_keepFound 62 = .ok (.getfield 42, 3) := by decide +kernel
theorem dX9_keepFound_65 : decode cX9_keepFound 65 = .ok (.aload_n 0, 1) := by decide +kernel
theorem dX9_keepFound_66 : decode cX9_keepFound 66 = .ok (.getfield 59, 3) := by decide +kernel
theorem dX9_keepFound_69 : decode cX9_keepFound 69 = .ok (.iconst 3, 1) := by decide +kernel
theorem dX9_keepFound_70 : decode cX9_keepFound 70 = .ok (.imul, 1) := by decide +kernel
theorem dX9_keepFound_71 : decode cX9_keepFound 71 = .ok (.iload_n 2, 1) := by decide +kernel
theorem dX9_keepFound_72 : decode cX9_keepFound 72 = .ok (.iadd, 1) := by decide +kernel
theorem dX9_keepFound_73 : decode cX9_keepFound 73 = .ok (.aload_n 0, 1) := by decide +kernel
theorem dX9_keepFound_74 : decode cX9_keepFound 74 = .ok (.getfield 33, 3) := by decide +kernel
theorem dX9_keepFound_77 : decode cX9_keepFound 77 = .ok (.iload_n 1, 1) := by decide +kernel
theorem dX9_keepFound_78 : decode cX9_keepFound 78 = .ok (.iconst 3, 1) := by decide +kernel
theorem dX9_keepFound_79 : decode cX9_keepFound 79 = .ok (.imul, 1) := by decide +kernel
theorem dX9_keepFound_80 : decode cX9_keepFound 80 = .ok (.iload_n 2, 1) := by decide +kernel
theorem dX9_keepFound_81 : decode cX9_keepFound 81 = .ok (.iadd, 1) := by decide +kernel
theorem dX9_keepFound_82 : decode cX9_keepFound 82 = .ok (.iaload, 1) := by decide +kernel
theorem dX9_keepFound_83 : decode cX9_keepFound 83 = .ok (.iastore, 1) := by decide +kernel
theorem dX9_keepFound_84 : decode cX9_keepFound 84 = .ok (.iinc 2 1, 3) := by decide +kernel
theorem dX9_keepFound_87 : decode cX9_keepFound 87 = .ok (.goto (-31), 3) := by decide +kernel
theorem dX9_told_0 : decode cX9_told 0 = .ok (.iload_n 1, 1) := by decide +kernel
theorem dX9_told_1 : decode cX9_told 1 = .ok (.ifCond .lt 11, 3) := by decide +kernel
theorem dX9_told_12 : decode cX9_told 12 = .ok (.iconst (-1), 1) := by decide +kernel
theorem dX9_told_13 : decode cX9_told 13 = .ok (.ireturn, 1) := by decide +kernel
theorem dX9_told_4 : decode cX9_told 4 = .ok (.iload_n 1, 1) := by decide +kernel
theorem dX9_told_5 : decode cX9_told 5 = .ok (.aload_n 0, 1) := by decide +kernel
theorem dX9_told_6 : decode cX9_told 6 = .ok (.getfield 59, 3) := by decide +kernel
theorem dX9_told_9 : decode cX9_told 9 = .ok (.if_icmp .lt 5, 3) := by decide +kernel
theorem dX9_told_14 : decode cX9_told 14 = .ok (.iload_n 1, 1) := by decide +kernel
theorem dX9_told_15 : decode cX9_told 15 = .ok (.iconst 3, 1) := by decide +kernel
theorem dX9_told_16 : decode cX9_told 16 = .ok (.imul, 1) := by decide +kernel
theorem dX9_told_17 : decode cX9_told 17 = .ok (.istore_n 3, 1) := by decide +kernel
theorem dX9_told_18 : decode cX9_told 18 = .ok (.iload_n 2, 1) := by decide +kernel
theorem dX9_told_19 : decode cX9_told 19 = .ok (.tableswitch 110 0 5 #[37, 71, 78, 87, 96, 103], 37) := by decide +kernel
theorem dX9_told_56 : decode cX9_told 56 = .ok (.aload_n 0, 1) := by decide +kernel
theorem dX9_told_57 : decode cX9_told 57 = .ok (.getfield 42, 3) := by decide +kernel
theorem dX9_told_60 : decode cX9_told 60 = .ok (.iload_n 3, 1) := by decide +kernel
theorem dX9_told_61 : decode cX9_told 61 = .ok (.iconst 1, 1) := by decide +kernel
theorem dX9_told_62 : decode cX9_told 62 = .ok (.iadd, 1) := by decide +kernel
theorem dX9_told_63 : decode cX9_told 63 = .ok (.iaload, 1) := by decide +kernel
theorem dX9_told_64 : decode cX9_told 64 = .ok (.iconst (-1), 1) := by decide +kernel
theorem dX9_told_65 : decode cX9_told 65 = .ok (.if_icmp .ne 7, 3) := by decide +kernel
theorem dX9_told_72 : decode cX9_told 72 = .ok (.aload_n 0, 1) := by decide +kernel
theorem dX9_told_73 : decode cX9_told 73 = .ok (.getfield 42, 3) := by decide +kernel
theorem dX9_told_76 : decode cX9_told 76 = .ok (.iload_n 3, 1) := by decide +kernel
theorem dX9_told_77 : decode cX9_told 77 = .ok (.iconst 2, 1) := by decide +kernel
theorem dX9_told_78 : decode cX9_told 78 = .ok (.iadd, 1) := by decide +kernel
theorem dX9_told_79 : decode cX9_told 79 = .ok (.iaload, 1) := by decide +kernel
theorem dX9_told_80 : decode cX9_told 80 = .ok (.iconst (-1), 1) := by decide +kernel
theorem dX9_told_81 : decode cX9_told 81 = .ok (.if_icmp .ne 7, 3) := by decide +kernel
theorem dX9_told_88 : decode cX9_told 88 = .ok (.iconst 3, 1) := by decide +kernel
theorem dX9_told_89 : decode cX9_told 89 = .ok (.ireturn, 1) := by decide +kernel
theorem dX9_told_84 : decode cX9_told 84 = .ok (.iconst 2, 1) := by decide +kernel
theorem dX9_told_85 : decode cX9_told 85 = .ok (.goto 4, 3) := by decide +kernel
theorem dX9_told_68 : decode cX9_told 68 = .ok (.iconst 1, 1) := by decide +kernel
theorem dX9_told_69 : decode cX9_told 69 = .ok (.goto 20, 3) := by decide +kernel
theorem dX9_told_90 : decode cX9_told 90 = .ok (.aload_n 0, 1) := by decide +kernel
theorem dX9_told_91 : decode cX9_told 91 = .ok (.getfield 42, 3) := by decide +kernel
theorem dX9_told_94 : decode cX9_told 94 = .ok (.iload_n 3, 1) := by decide +kernel
theorem dX9_told_95 : decode cX9_told 95 = .ok (.iaload, 1) := by decide +kernel
theorem dX9_told_96 : decode cX9_told 96 = .ok (.ireturn, 1) := by decide +kernel
theorem dX9_told_97 : decode cX9_told 97 = .ok (.aload_n 0, 1) := by decide +kernel
theorem dX9_told_98 : decode cX9_told 98 = .ok (.getfield 42, 3) := by decide +kernel
theorem dX9_told_101 : decode cX9_told 101 = .ok (.iload_n 3, 1) := by decide +kernel
theorem dX9_told_102 : decode cX9_told 102 = .ok (.iconst 1, 1) := by decide +kernel
theorem dX9_told_103 : decode cX9_told 103 = .ok (.iadd, 1) := by decide +kernel
theorem dX9_told_104 : decode cX9_told 104 = .ok (.iaload, 1) := by decide +kernel
theorem dX9_told_105 : decode cX9_told 105 = .ok (.ireturn, 1) := by decide +kernel
theorem dX9_told_106 : decode cX9_told 106 = .ok (.aload_n 0, 1) := by decide +kernel
theorem dX9_told_107 : decode cX9_told 107 = .ok (.getfield 42, 3) := by decide +kernel
theorem dX9_told_110 : decode cX9_told 110 = .ok (.iload_n 3, 1) := by decide +kernel
theorem dX9_told_111 : decode cX9_told 111 = .ok (.iconst 2, 1) := by decide +kernel
theorem dX9_told_112 : decode cX9_told 112 = .ok (.iadd, 1) := by decide +kernel
theorem dX9_told_113 : decode cX9_told 113 = .ok (.iaload, 1) := by decide +kernel
theorem dX9_told_114 : decode cX9_told 114 = .ok (.ireturn, 1) := by decide +kernel
theorem dX9_told_115 : decode cX9_told 115 = .ok (.aload_n 0, 1) := by decide +kernel
theorem dX9_told_116 : decode cX9_told 116 = .ok (.getfield 36, 3) := by decide +kernel
theorem dX9_told_119 : decode cX9_told 119 = .ok (.iload_n 1, 1) := by decide +kernel
theorem dX9_told_120 : decode cX9_told 120 = .ok (.iaload, 1) := by decide +kernel
theorem dX9_told_121 : decode cX9_told 121 = .ok (.ireturn, 1) := by decide +kernel
theorem dX9_told_122 : decode cX9_told 122 = .ok (.aload_n 0, 1) := by decide +kernel
theorem dX9_told_123 : decode cX9_told 123 = .ok (.getfield 39, 3) := by decide +kernel
theorem dX9_told_126 : decode cX9_told 126 = .ok (.iload_n 1, 1) := by decide +kernel
theorem dX9_told_127 : decode cX9_told 127 = .ok (.iaload, 1) := by decide +kernel
theorem dX9_told_128 : decode cX9_told 128 = .ok (.ireturn, 1) := by decide +kernel
theorem dX9_told_129 : decode cX9_told 129 = .ok (.iconst (-1), 1) := by decide +kernel
theorem dX9_told_130 : decode cX9_told 130 = .ok (.ireturn, 1) := by decide +kernel
