theorem dX12_rough_0 : decode cX12_rough 0 = .ok (.aload_n 0, 1) := by decide +kernel
theorem dX12_rough_1 : decode cX12_rough 1 = .ok (.iconst 0, 1) := by decide +kernel
theorem dX12_rough_2 : decode cX12_rough 2 = .ok (.putfield 85, 3) := by decide +kernel
theorem dX12_rough_5 : decode cX12_rough 5 = .ok (.aload_n 0, 1) := by decide +kernel
theorem dX12_rough_6 : decode cX12_rough 6 = .ok (.iconst (-1), 1) := by decide +kernel
theorem dX12_rough_7 : decode cX12_rough 7 = .ok (.putfield 55, 3) := by decide +kernel
theorem dX12_rough_10 : decode cX12_rough 10 = .ok (.iload_n 1, 1) := by decide +kernel
set_option maxRecDepth 20000 in
theorem ggX12_rough_X12_isCode : GoodIn wsX12_rough wsX12_isCode := goodIn_r _ [14] rfl (by decide +kernel)
set_option maxRecDepth 20000 in
theorem gX12_rough_X12_isCode : GoodIn wsX12_rough (va_wsS RX12 158 yX12_isCode wsX12_isCode) := goodIn_app (goodIn_r _ [11, 12, 13] rfl (by decide +kernel)) ggX12_rough_X12_isCode
theorem dX12_rough_11 : decode cX12_rough 11 = .ok (.invokestatic 158, 3) := by decide +kernel
theorem dX12_rough_14 : decode cX12_rough 14 = .ok (.ifCond .eq 10, 3) := by decide +kernel
theorem dX12_rough_24 : decode cX12_rough 24 = .ok (.iconst (-1), 1) := by decide +kernel
theorem dX12_rough_25 : decode cX12_rough 25 = .ok (.ireturn, 1) := by decide +kernel
theorem dX12_rough_17 : decode cX12_rough 17 = .ok (.iload_n 2, 1) := by decide +kernel
theorem dX12_rough_18 : decode cX12_rough 18 = .ok (.invokestatic 158, 3) := by decide +kernel
theorem dX12_rough_21 : decode cX12_rough 21 = .ok (.ifCond .ne 5, 3) := by decide +kernel
theorem dX12_rough_26 : decode cX12_rough 26 = .ok (.aload_n 0, 1) := by decide +kernel
theorem dX12_rough_27 : decode cX12_rough 27 = .ok (.iload_n 1, 1) := by decide +kernel
theorem dX12_rough_28 : decode cX12_rough 28 = .ok (.aload_n 0, 1) := by decide +kernel
theorem dX12_rough_29 : decode cX12_rough 29 = .ok (.getfield 16, 3) := by decide +kernel
theorem dX12_rough_32 : decode cX12_rough 32 = .ok (.aload_n 0, 1) := by decide +kernel
theorem dX12_rough_33 : decode cX12_rough 33 = .ok (.getfield 13, 3) := by decide +kernel
theorem dX12_rough_36 : decode cX12_rough 36 = .ok (.iconst 0, 1) := by decide +kernel
theorem dX12_rough_37 : decode cX12_rough 37 = .ok (.iaload, 1) := by decide +kernel
set_option maxRecDepth 20000 in
theorem ggX12_rough_X12_write : GoodIn wsX12_rough wsX12_write := goodIn_r _ [18, 6, 5, 19, 20, 21, 13, 22, 23, 24, 25, 26, 27, 28, 29, 54, 55, 56, 57, 58, 59, 60, 61, 62, 63, 64, 65, 66, 67, 68, 69, 70, 71, 72, 73, 74, 75, 76, 77, 78, 79, 80, 81, 82, 83, 84, 85, 86, 87, 88, 89, 90, 91, 92, 93] rfl (by decide +kernel)
set_option maxRecDepth 20000 in
theorem gX12_rough_X12_write : GoodIn wsX12_rough (wsV RX12 127 RX12 yX12_write wsX12_write) := goodIn_app (goodIn_r _ [15, 16, 17, 13] rfl (by decide +kernel)) ggX12_rough_X12_write
theorem dX12_rough_38 : decode cX12_rough 38 = .ok (.invokevirtual 127, 3) := by decide +kernel
theorem dX12_rough_41 : decode cX12_rough 41 = .ok (.ifCond .ne 13, 3) := by decide +kernel
theorem dX12_rough_54 : decode cX12_rough 54 = .ok (.aload_n 0, 1) := by decide +kernel
theorem dX12_rough_55 : decode cX12_rough 55 = .ok (.getfield 91, 3) := by decide +kernel
theorem dX12_rough_58 : decode cX12_rough 58 = .ok (.sipush 900, 3) := by decide +kernel
theorem dX12_rough_61 : decode cX12_rough 61 = .ok (.if_icmp .le 5, 3) := by decide +kernel
theorem dX12_rough_66 : decode cX12_rough 66 = .ok (.iconst 0, 1) := by decide +kernel
theorem dX12_rough_67 : decode cX12_rough 67 = .ok (.istore_n 3, 1) := by decide +kernel
theorem dX12_rough_68 : decode cX12_rough 68 = .ok (.iconst 0, 1) := by decide +kernel
theorem dX12_rough_69 : decode cX12_rough 69 = .ok (.istore 4, 2) := by decide +kernel
theorem dX12_rough_71 : decode cX12_rough 71 = .ok (.aload_n 0, 1) := by decide +kernel
theorem dX12_rough_72 : decode cX12_rough 72 = .ok (.iconst 0, 1) := by decide +kernel
theorem dX12_rough_73 : decode cX12_rough 73 = .ok (.putfield 119, 3) := by decide +kernel
theorem dX12_rough_76 : decode cX12_rough 76 = .ok (.iload 4, 2) := by decide +kernel
theorem dX12_rough_78 : decode cX12_rough 78 = .ok (.aload_n 0, 1) := by decide +kernel
theorem dX12_rough_79 : decode cX12_rough 79 = .ok (.getfield 91, 3) := by decide +kernel
theorem dX12_rough_82 : decode cX12_rough 82 = .ok (.if_icmp .ge 77, 3) := by decide +kernel
theorem dX12_rough_159 : decode cX12_rough 159 = .ok (.aload_n 0, 1) := by decide +kernel
theorem dX12_rough_160 : decode cX12_rough 160 = .ok (.getfield 119, 3) := by decide +kernel
theorem dX12_rough_163 : decode cX12_rough 163 = .ok (.sipush 300, 3) := by decide +kernel
theorem dX12_rough_166 : decode cX12_rough 166 = .ok (.if_icmp .le 5, 3) := by decide +kernel
theorem dX12_rough_171 : decode cX12_rough 171 = .ok (.aload_n 0, 1) := by decide +kernel
theorem dX12_rough_172 : decode cX12_rough 172 = .ok (.aload_n 0, 1) := by decide +kernel
theorem dX12_rough_173 : decode cX12_rough 173 = .ok (.getfield 61, 3) := by decide +kernel
theorem dX12_rough_176 : decode cX12_rough 176 = .ok (.aload_n 0, 1) := by decide +kernel
theorem dX12_rough_177 : decode cX12_rough 177 = .ok (.getfield 119, 3) := by decide +kernel
set_option maxRecDepth 20000 in
theorem ggX12_rough_X12_become : GoodIn wsX12_rough wsX12_become := goodIn_r _ [50, 51, 52, 4, 3, 53, 54, 55, 56, 57, 58, 59, 60, 61, 62, 63, 64, 65, 66, 67, 68, 69, 70, 71, 72, 73, 74, 75, 76, 77, 78, 79, 80, 81, 82, 83, 84, 85, 86, 87, 88, 89, 90, 91, 92, 93] rfl (by decide +kernel)
set_option maxRecDepth 20000 in
theorem gX12_rough_X12_become : GoodIn wsX12_rough (wsV RX12 154 RX12 yX12_become wsX12_become) := goodIn_app (goodIn_r _ [47, 48, 49, 13] rfl (by decide +kernel)) ggX12_rough_X12_become
theorem dX12_rough_180 : decode cX12_rough 180 = .ok (.invokevirtual 154, 3) := by decide +kernel
theorem dX12_rough_183 : decode cX12_rough 183 = .ok (.iload_n 3, 1) := by decide +kernel
theorem dX12_rough_184 : decode cX12_rough 184 = .ok (.ireturn, 1) := by decide +kernel
theorem dX12_rough_169 : decode cX12_rough 169 = .ok (.iconst (-1), 1) := by decide +kernel
theorem dX12_rough_170 : decode cX12_rough 170 = .ok (.ireturn, 1) := by decide +kernel
theorem dX12_rough_85 : decode cX12_rough 85 = .ok (.aload_n 0, 1) := by decide +kernel
theorem dX12_rough_86 : decode cX12_rough 86 = .ok (.iload_n 2, 1) := by decide +kernel
theorem dX12_rough_87 : decode cX12_rough 87 = .ok (.iload 4, 2) := by decide +kernel
set_option maxRecDepth 20000 in
theorem ggX12_rough_X12_readAt : GoodIn wsX12_rough wsX12_readAt := goodIn_r _ [33, 29, 10, 34, 35, 36, 37, 13, 38, 6, 39, 40, 41, 42, 43, 44, 24, 45, 46, 54, 55, 56, 57, 58, 59, 60, 61, 62, 63, 64, 65, 66, 67, 68, 69, 70, 71, 72, 73, 74, 75, 76, 77, 78, 79, 80, 81, 82, 83, 84, 85, 86, 87, 88, 89, 90, 91, 92, 93] rfl (by decide +kernel)
set_option maxRecDepth 20000 in
theorem gX12_rough_X12_readAt : GoodIn wsX12_rough (wsV RX12 122 RX12 yX12_readAt wsX12_readAt) := goodIn_app (goodIn_r _ [30, 31, 32, 13] rfl (by decide +kernel)) ggX12_rough_X12_readAt
theorem dX12_rough_89 : decode cX12_rough 89 = .ok (.invokevirtual 122, 3) := by decide +kernel
theorem dX12_rough_92 : decode cX12_rough 92 = .ok (.istore 5, 2) := by decide +kernel
theorem dX12_rough_94 : decode cX12_rough 94 = .ok (.aload_n 0, 1) := by decide +kernel
theorem dX12_rough_95 : decode cX12_rough 95 = .ok (.getfield 61, 3) := by decide +kernel
theorem dX12_rough_98 : decode cX12_rough 98 = .ok (.aload_n 0, 1) := by decide +kernel
theorem dX12_rough_99 : decode cX12_rough 99 = .ok (.getfield 119, 3) := by decide +kernel
theorem dX12_rough_102 : decode cX12_rough 102 = .ok (.iload 5, 2) := by decide +kernel
theorem dX12_rough_104 : decode cX12_rough 104 = .ok (.ifCond .ne 8, 3) := by decide +kernel
theorem dX12_rough_112 : decode cX12_rough 112 = .ok (.aload_n 0, 1) := by decide +kernel
theorem dX12_rough_113 : decode cX12_rough 113 = .ok (.getfield 105, 3) := by decide +kernel
theorem dX12_rough_116 : decode cX12_rough 116 = .ok (.iastore, 1) := by decide +kernel
theorem dX12_rough_117 : decode cX12_rough 117 = .ok (.aload_n 0, 1) := by decide +kernel
theorem dX12_rough_118 : decode cX12_rough 118 = .ok (.dup, 1) := by decide +kernel
theorem dX12_rough_119 : decode cX12_rough 119 = .ok (.getfield 119, 3) := by decide +kernel
theorem dX12_rough_122 : decode cX12_rough 122 = .ok (.iconst 1, 1) := by decide +kernel
theorem dX12_rough_123 : decode cX12_rough 123 = .ok (.iadd, 1) := by decide +kernel
theorem dX12_rough_124 : decode cX12_rough 124 = .ok (.putfield 119, 3) := by decide +kernel
theorem dX12_rough_127 : decode cX12_rough 127 = .ok (.iload_n 3, 1) := by decide +kernel
theorem dX12_rough_128 : decode cX12_rough 128 = .ok (.iload 5, 2) := by decide +kernel
theorem dX12_rough_130 : decode cX12_rough 130 = .ok (.ifCond .ne 7, 3) := by decide +kernel
theorem dX12_rough_137 : decode cX12_rough 137 = .ok (.iconst 0, 1) := by decide +kernel
theorem dX12_rough_138 : decode cX12_rough 138 = .ok (.iadd, 1) := by decide +kernel
theorem dX12_rough_139 : decode cX12_rough 139 = .ok (.istore_n 3, 1) := by decide +kernel
theorem dX12_rough_140 : decode cX12_rough 140 = .ok (.iload 4, 2) := by decide +kernel
theorem dX12_rough_142 : decode cX12_rough 142 = .ok (.iload 5, 2) := by decide +kernel
theorem dX12_rough_144 : decode cX12_rough 144 = .ok (.ifCond .ne 7, 3) := by decide +kernel
theorem dX12_rough_151 : decode cX12_rough 151 = .ok (.iload 5, 2) := by decide +kernel
theorem dX12_rough_153 : decode cX12_rough 153 = .ok (.iadd, 1) := by decide +kernel
theorem dX12_rough_154 : decode cX12_rough 154 = .ok (.istore 4, 2) := by decide +kernel
theorem dX12_rough_156 : decode cX12_rough 156 = .ok (.goto (-80), 3) := by decide +kernel
theorem dX12_rough_107 : decode cX12_rough 107 = .ok (.ldc 126, 2) := by decide +kernel
theorem dX12_rough_109 : decode cX12_rough 109 = .ok (.goto 7, 3) := by decide +kernel
theorem dX12_rough_133 : decode cX12_rough 133 = .ok (.iconst 1, 1) := by decide +kernel
theorem dX12_rough_134 : decode cX12_rough 134 = .ok (.goto 4, 3) := by decide +kernel
theorem dX12_rough_147 : decode cX12_rough 147 = .ok (.iconst 1, 1) := by decide +kernel
theorem dX12_rough_148 : decode cX12_rough 148 = .ok (.goto 5, 3) := by decide +kernel
theorem dX12_rough_64 : decode cX12_rough 64 = .ok (.iconst (-1), 1) := by decide +kernel
theorem dX12_rough_65 : decode cX12_rough 65 = .ok (.ireturn, 1) := by decide +kernel
theorem dX12_rough_44 : decode cX12_rough 44 = .ok (.aload_n 0, 1) := by decide +kernel
theorem dX12_rough_45 : decode cX12_rough 45 = .ok (.aload_n 0, 1) := by decide +kernel
theorem dX12_rough_46 : decode cX12_rough 46 = .ok (.getfield 102, 3) := by decide +kernel
theorem dX12_rough_49 : decode cX12_rough 49 = .ok (.putfield 55, 3) := by decide +kernel
theorem dX12_rough_52 : decode cX12_rough 52 = .ok (.iconst (-1), 1) := by decide +kernel
theorem dX12_rough_53 : decode cX12_rough 53 = .ok (.ireturn, 1) := by decide +kernel
