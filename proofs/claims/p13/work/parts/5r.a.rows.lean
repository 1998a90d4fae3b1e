theorem dX12_isChoice_0 : decode cX12_isChoice 0 = .ok (.aload_n 0, 1) := by decide +kernel
theorem dX12_isChoice_1 : decode cX12_isChoice 1 = .ok (.iload_n 2, 1) := by decide +kernel
theorem dX12_isChoice_2 : decode cX12_isChoice 2 = .ok (.iload_n 3, 1) := by decide +kernel
theorem dX12_isChoice_3 : decode cX12_isChoice 3 = .ok (.iload 4, 2) := by decide +kernel
set_option maxRecDepth 20000 in
theorem ggX12_isChoice_X12_writeWith : GoodIn wsX12_isChoice wsX12_writeWith := goodIn_r _ [12, 5, 6, 7, 13, 14, 15, 16, 17, 11, 18, 19, 20, 21, 22, 23, 24, 25, 52, 53, 54, 55, 56, 57, 58, 59, 60, 61, 62, 63, 64, 65, 66, 67, 68, 69, 70, 71, 72, 73, 74, 75, 76, 77, 78, 79, 80, 81, 82, 83, 84, 85, 86, 87, 88, 89, 90, 91] rfl (by decide +kernel)
set_option maxRecDepth 20000 in
theorem gX12_isChoice_X12_writeWith : GoodIn wsX12_isChoice (wsV RX12 203 RX12 yX12_writeWith wsX12_writeWith) := goodIn_app (goodIn_r _ [8, 9, 10, 11] rfl (by decide +kernel)) ggX12_isChoice_X12_writeWith
theorem dX12_isChoice_5 : decode cX12_isChoice 5 = .ok (.invokevirtual 203, 3) := by decide +kernel
theorem dX12_isChoice_8 : decode cX12_isChoice 8 = .ok (.ifCond .eq 22, 3) := by decide +kernel
theorem dX12_isChoice_30 : decode cX12_isChoice 30 = .ok (.iconst 0, 1) := by decide +kernel
theorem dX12_isChoice_31 : decode cX12_isChoice 31 = .ok (.ireturn, 1) := by decide +kernel
theorem dX12_isChoice_11 : decode cX12_isChoice 11 = .ok (.aload_n 0, 1) := by decide +kernel
theorem dX12_isChoice_12 : decode cX12_isChoice 12 = .ok (.iload_n 1, 1) := by decide +kernel
theorem dX12_isChoice_13 : decode cX12_isChoice 13 = .ok (.iconst 0, 1) := by decide +kernel
set_option maxRecDepth 20000 in
theorem ggX12_isChoice_X12_read : GoodIn wsX12_isChoice wsX12_read := goodIn_r _ [29, 1, 5, 14, 4, 13, 30, 31, 32, 33, 11, 34, 19, 35, 36, 37, 38, 39, 40, 41, 42, 43, 44, 45, 25, 46, 47, 52, 53, 54, 55, 56, 57, 58, 59, 60, 61, 62, 63, 64, 65, 66, 67, 68, 69, 70, 71, 72, 73, 74, 75, 76, 77, 78, 79, 80, 81, 82, 83, 84, 85, 86, 87, 88, 89, 90, 91] rfl (by decide +kernel)
set_option maxRecDepth 20000 in
theorem gX12_isChoice_X12_read : GoodIn wsX12_isChoice (wsV RX12 131 RX12 yX12_read wsX12_read) := goodIn_app (goodIn_r _ [26, 27, 28, 11] rfl (by decide +kernel)) ggX12_isChoice_X12_read
theorem dX12_isChoice_14 : decode cX12_isChoice 14 = .ok (.invokevirtual 131, 3) := by decide +kernel
theorem dX12_isChoice_17 : decode cX12_isChoice 17 = .ok (.ifCond .eq 13, 3) := by decide +kernel
theorem dX12_isChoice_20 : decode cX12_isChoice 20 = .ok (.aload_n 0, 1) := by decide +kernel
theorem dX12_isChoice_21 : decode cX12_isChoice 21 = .ok (.getfield 119, 3) := by decide +kernel
theorem dX12_isChoice_24 : decode cX12_isChoice 24 = .ok (.sipush 300, 3) := by decide +kernel
theorem dX12_isChoice_27 : decode cX12_isChoice 27 = .ok (.if_icmp .le 5, 3) := by decide +kernel
theorem dX12_isChoice_32 : decode cX12_isChoice 32 = .ok (.aload_n 0, 1) := by decide +kernel
theorem dX12_isChoice_33 : decode cX12_isChoice 33 = .ok (.aload_n 0, 1) := by decide +kernel
theorem dX12_isChoice_34 : decode cX12_isChoice 34 = .ok (.getfield 119, 3) := by decide +kernel
theorem dX12_isChoice_37 : decode cX12_isChoice 37 = .ok (.putfield 135, 3) := by decide +kernel
theorem dX12_isChoice_40 : decode cX12_isChoice 40 = .ok (.iconst 0, 1) := by decide +kernel
theorem dX12_isChoice_41 : decode cX12_isChoice 41 = .ok (.istore 5, 2) := by decide +kernel
theorem dX12_isChoice_43 : decode cX12_isChoice 43 = .ok (.iload 5, 2) := by decide +kernel
theorem dX12_isChoice_45 : decode cX12_isChoice 45 = .ok (.aload_n 0, 1) := by decide +kernel
theorem dX12_isChoice_46 : decode cX12_isChoice 46 = .ok (.getfield 135, 3) := by decide +kernel
theorem dX12_isChoice_49 : decode cX12_isChoice 49 = .ok (.if_icmp .ge 23, 3) := by decide +kernel
theorem dX12_isChoice_72 : decode cX12_isChoice 72 = .ok (.aload_n 0, 1) := by decide +kernel
theorem dX12_isChoice_73 : decode cX12_isChoice 73 = .ok (.iload_n 1, 1) := by decide +kernel
theorem dX12_isChoice_74 : decode cX12_isChoice 74 = .ok (.aload_n 0, 1) := by decide +kernel
theorem dX12_isChoice_75 : decode cX12_isChoice 75 = .ok (.getfield 64, 3) := by decide +kernel
theorem dX12_isChoice_78 : decode cX12_isChoice 78 = .ok (.aload_n 0, 1) := by decide +kernel
theorem dX12_isChoice_79 : decode cX12_isChoice 79 = .ok (.getfield 135, 3) := by decide +kernel
set_option maxRecDepth 20000 in
theorem ggX12_isChoice_X12_write : GoodIn wsX12_isChoice wsX12_write := goodIn_r _ [51, 5, 14, 20, 21, 22, 11, 23, 24, 25, 15, 16, 17, 18, 19, 52, 53, 54, 55, 56, 57, 58, 59, 60, 61, 62, 63, 64, 65, 66, 67, 68, 69, 70, 71, 72, 73, 74, 75, 76, 77, 78, 79, 80, 81, 82, 83, 84, 85, 86, 87, 88, 89, 90, 91] rfl (by decide +kernel)
set_option maxRecDepth 20000 in
theorem gX12_isChoice_X12_write : GoodIn wsX12_isChoice (wsV RX12 127 RX12 yX12_write wsX12_write) := goodIn_app (goodIn_r _ [48, 49, 50, 11] rfl (by decide +kernel)) ggX12_isChoice_X12_write
theorem dX12_isChoice_82 : decode cX12_isChoice 82 = .ok (.invokevirtual 127, 3) := by decide +kernel
theorem dX12_isChoice_85 : decode cX12_isChoice 85 = .ok (.ifCond .eq 13, 3) := by decide +kernel
theorem dX12_isChoice_88 : decode cX12_isChoice 88 = .ok (.aload_n 0, 1) := by decide +kernel
theorem dX12_isChoice_89 : decode cX12_isChoice 89 = .ok (.getfield 91, 3) := by decide +kernel
theorem dX12_isChoice_92 : decode cX12_isChoice 92 = .ok (.sipush 900, 3) := by decide +kernel
theorem dX12_isChoice_95 : decode cX12_isChoice 95 = .ok (.if_icmp .le 5, 3) := by decide +kernel
theorem dX12_isChoice_100 : decode cX12_isChoice 100 = .ok (.aload_n 0, 1) := by decide +kernel
theorem dX12_isChoice_101 : decode cX12_isChoice 101 = .ok (.iload_n 2, 1) := by decide +kernel
theorem dX12_isChoice_102 : decode cX12_isChoice 102 = .ok (.iconst 1, 1) := by decide +kernel
theorem dX12_isChoice_103 : decode cX12_isChoice 103 = .ok (.invokevirtual 131, 3) := by decide +kernel
theorem dX12_isChoice_106 : decode cX12_isChoice 106 = .ok (.pop, 1) := by decide +kernel
theorem dX12_isChoice_107 : decode cX12_isChoice 107 = .ok (.aload_n 0, 1) := by decide +kernel
theorem dX12_isChoice_108 : decode cX12_isChoice 108 = .ok (.getfield 119, 3) := by decide +kernel
theorem dX12_isChoice_111 : decode cX12_isChoice 111 = .ok (.aload_n 0, 1) := by decide +kernel
theorem dX12_isChoice_112 : decode cX12_isChoice 112 = .ok (.getfield 13, 3) := by decide +kernel
theorem dX12_isChoice_115 : decode cX12_isChoice 115 = .ok (.iconst 0, 1) := by decide +kernel
theorem dX12_isChoice_116 : decode cX12_isChoice 116 = .ok (.iaload, 1) := by decide +kernel
theorem dX12_isChoice_117 : decode cX12_isChoice 117 = .ok (.if_icmp .ne 7, 3) := by decide +kernel
theorem dX12_isChoice_124 : decode cX12_isChoice 124 = .ok (.iconst 0, 1) := by decide +kernel
theorem dX12_isChoice_125 : decode cX12_isChoice 125 = .ok (.istore 5, 2) := by decide +kernel
theorem dX12_isChoice_127 : decode cX12_isChoice 127 = .ok (.iconst 0, 1) := by decide +kernel
theorem dX12_isChoice_128 : decode cX12_isChoice 128 = .ok (.istore 6, 2) := by decide +kernel
theorem dX12_isChoice_130 : decode cX12_isChoice 130 = .ok (.iload 5, 2) := by decide +kernel
theorem dX12_isChoice_132 : decode cX12_isChoice 132 = .ok (.ifCond .eq 42, 3) := by decide +kernel
theorem dX12_isChoice_174 : decode cX12_isChoice 174 = .ok (.iload 5, 2) := by decide +kernel
theorem dX12_isChoice_176 : decode cX12_isChoice 176 = .ok (.ireturn, 1) := by decide +kernel
theorem dX12_isChoice_120 : decode cX12_isChoice 120 = .ok (.iconst 1, 1) := by decide +kernel
theorem dX12_isChoice_121 : decode cX12_isChoice 121 = .ok (.goto 4, 3) := by decide +kernel
theorem dX12_isChoice_135 : decode cX12_isChoice 135 = .ok (.iload 6, 2) := by decide +kernel
theorem dX12_isChoice_137 : decode cX12_isChoice 137 = .ok (.aload_n 0, 1) := by decide +kernel
theorem dX12_isChoice_138 : decode cX12_isChoice 138 = .ok (.getfield 119, 3) := by decide +kernel
theorem dX12_isChoice_141 : decode cX12_isChoice 141 = .ok (.if_icmp .ge 33, 3) := by decide +kernel
theorem dX12_isChoice_144 : decode cX12_isChoice 144 = .ok (.aload_n 0, 1) := by decide +kernel
theorem dX12_isChoice_145 : decode cX12_isChoice 145 = .ok (.getfield 61, 3) := by decide +kernel
theorem dX12_isChoice_148 : decode cX12_isChoice 148 = .ok (.iload 6, 2) := by decide +kernel
theorem dX12_isChoice_150 : decode cX12_isChoice 150 = .ok (.iaload, 1) := by decide +kernel
theorem dX12_isChoice_151 : decode cX12_isChoice 151 = .ok (.aload_n 0, 1) := by decide +kernel
theorem dX12_isChoice_152 : decode cX12_isChoice 152 = .ok (.getfield 16, 3) := by decide +kernel
theorem dX12_isChoice_155 : decode cX12_isChoice 155 = .ok (.iload 6, 2) := by decide +kernel
theorem dX12_isChoice_157 : decode cX12_isChoice 157 = .ok (.iaload, 1) := by decide +kernel
theorem dX12_isChoice_158 : decode cX12_isChoice 158 = .ok (.if_icmp .ne 7, 3) := by decide +kernel
theorem dX12_isChoice_161 : decode cX12_isChoice 161 = .ok (.iconst 1, 1) := by decide +kernel
theorem dX12_isChoice_162 : decode cX12_isChoice 162 = .ok (.goto 4, 3) := by decide +kernel
theorem dX12_isChoice_166 : decode cX12_isChoice 166 = .ok (.istore 5, 2) := by decide +kernel
theorem dX12_isChoice_168 : decode cX12_isChoice 168 = .ok (.iinc 6 1, 3) := by decide +kernel
theorem dX12_isChoice_171 : decode cX12_isChoice 171 = .ok (.goto (-41), 3) := by decide +kernel
theorem dX12_isChoice_52 : decode cX12_isChoice 52 = .ok (.aload_n 0, 1) := by decide +kernel
theorem dX12_isChoice_53 : decode cX12_isChoice 53 = .ok (.getfield 64, 3) := by decide +kernel
theorem dX12_isChoice_56 : decode cX12_isChoice 56 = .ok (.iload 5, 2) := by decide +kernel
theorem dX12_isChoice_58 : decode cX12_isChoice 58 = .ok (.aload_n 0, 1) := by decide +kernel
theorem dX12_isChoice_59 : decode cX12_isChoice 59 = .ok (.getfield 61, 3) := by decide +kernel
theorem dX12_isChoice_62 : decode cX12_isChoice 62 = .ok (.iload 5, 2) := by decide +kernel
theorem dX12_isChoice_64 : decode cX12_isChoice 64 = .ok (.iaload, 1) := by decide +kernel
theorem dX12_isChoice_65 : decode cX12_isChoice 65 = .ok (.iastore, 1) := by decide +kernel
theorem dX12_isChoice_66 : decode cX12_isChoice 66 = .ok (.iinc 5 1, 3) := by decide +kernel
theorem dX12_isChoice_69 : decode cX12_isChoice 69 = .ok (.goto (-26), 3) := by decide +kernel
