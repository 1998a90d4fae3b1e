theorem dX1_tryWhole_0 : decode cX1_tryWhole 0 = .ok (.aload_n 0, 1) := by decide +kernel
theorem dX1_tryWhole_1 : decode cX1_tryWhole 1 = .ok (.getfield 62, 3) := by decide +kernel
theorem dX1_tryWhole_4 : decode cX1_tryWhole 4 = .ok (.aload_n 0, 1) := by decide +kernel
theorem dX1_tryWhole_5 : decode cX1_tryWhole 5 = .ok (.getfield 59, 3) := by decide +kernel
set_option maxRecDepth 20000 in
theorem ggX1_tryWhole_X8_takeAll : GoodIn wsX1_tryWhole wsX8_takeAll := goodIn_r _ [14, 15, 16, 17, 18, 152, 153, 154, 155, 156, 157] rfl (by decide +kernel)
set_option maxRecDepth 20000 in
theorem gX1_tryWhole_X8_takeAll : GoodIn wsX1_tryWhole (wsV RX1 120 RX8 yX8_takeAll wsX8_takeAll) := goodIn_app (goodIn_r _ [10, 11, 12, 13] rfl (by decide +kernel)) ggX1_tryWhole_X8_takeAll
theorem dX1_tryWhole_8 : decode cX1_tryWhole 8 = .ok (.invokevirtual 120, 3) := by decide +kernel
theorem dX1_tryWhole_11 : decode cX1_tryWhole 11 = .ok (.iconst 0, 1) := by decide +kernel
theorem dX1_tryWhole_12 : decode cX1_tryWhole 12 = .ok (.istore_n 3, 1) := by decide +kernel
theorem dX1_tryWhole_13 : decode cX1_tryWhole 13 = .ok (.iload_n 3, 1) := by decide +kernel
theorem dX1_tryWhole_14 : decode cX1_tryWhole 14 = .ok (.sipush 800, 3) := by decide +kernel
theorem dX1_tryWhole_17 : decode cX1_tryWhole 17 = .ok (.if_icmp .ge 49, 3) := by decide +kernel
theorem dX1_tryWhole_66 : decode cX1_tryWhole 66 = .ok (.aload_n 0, 1) := by decide +kernel
theorem dX1_tryWhole_67 : decode cX1_tryWhole 67 = .ok (.getfield 62, 3) := by decide +kernel
set_option maxRecDepth 20000 in
theorem ggX1_tryWhole_X8_reached : GoodIn wsX1_tryWhole wsX8_reached := goodIn_r _ [22, 15, 152, 153, 154, 155, 156, 157] rfl (by decide +kernel)
set_option maxRecDepth 20000 in
theorem gX1_tryWhole_X8_reached : GoodIn wsX1_tryWhole (wsV RX1 162 RX8 yX8_reached wsX8_reached) := goodIn_app (goodIn_r _ [19, 20, 21, 13] rfl (by decide +kernel)) ggX1_tryWhole_X8_reached
theorem dX1_tryWhole_70 : decode cX1_tryWhole 70 = .ok (.invokevirtual 162, 3) := by decide +kernel
theorem dX1_tryWhole_73 : decode cX1_tryWhole 73 = .ok (.istore_n 3, 1) := by decide +kernel
theorem dX1_tryWhole_74 : decode cX1_tryWhole 74 = .ok (.iload_n 3, 1) := by decide +kernel
theorem dX1_tryWhole_75 : decode cX1_tryWhole 75 = .ok (.aload_n 0, 1) := by decide +kernel
theorem dX1_tryWhole_76 : decode cX1_tryWhole 76 = .ok (.getfield 85, 3) := by decide +kernel
theorem dX1_tryWhole_79 : decode cX1_tryWhole 79 = .ok (.if_icmp .le 20, 3) := by decide +kernel
theorem dX1_tryWhole_82 : decode cX1_tryWhole 82 = .ok (.iload_n 3, 1) := by decide +kernel
theorem dX1_tryWhole_83 : decode cX1_tryWhole 83 = .ok (.sipush 800, 3) := by decide +kernel
theorem dX1_tryWhole_86 : decode cX1_tryWhole 86 = .ok (.if_icmp .gt 13, 3) := by decide +kernel
theorem dX1_tryWhole_89 : decode cX1_tryWhole 89 = .ok (.aload_n 0, 1) := by decide +kernel
theorem dX1_tryWhole_90 : decode cX1_tryWhole 90 = .ok (.getfield 27, 3) := by decide +kernel
theorem dX1_tryWhole_93 : decode cX1_tryWhole 93 = .ok (.iload_n 3, 1) := by decide +kernel
theorem dX1_tryWhole_94 : decode cX1_tryWhole 94 = .ok (.iaload, 1) := by decide +kernel
theorem dX1_tryWhole_95 : decode cX1_tryWhole 95 = .ok (.iconst (-1), 1) := by decide +kernel
theorem dX1_tryWhole_96 : decode cX1_tryWhole 96 = .ok (.if_icmp .ne 4, 3) := by decide +kernel
theorem dX1_tryWhole_100 : decode cX1_tryWhole 100 = .ok (.aload_n 0, 1) := by decide +kernel
theorem dX1_tryWhole_101 : decode cX1_tryWhole 101 = .ok (.getfield 62, 3) := by decide +kernel
set_option maxRecDepth 20000 in
theorem ggX1_tryWhole_X8_letters : GoodIn wsX1_tryWhole wsX8_letters := goodIn_r _ [114, 18, 152, 153, 154, 155, 156, 157] rfl (by decide +kernel)
set_option maxRecDepth 20000 in
theorem gX1_tryWhole_X8_letters : GoodIn wsX1_tryWhole (wsV RX1 169 RX8 yX8_letters wsX8_letters) := goodIn_app (goodIn_r _ [111, 112, 113, 13] rfl (by decide +kernel)) ggX1_tryWhole_X8_letters
theorem dX1_tryWhole_104 : decode cX1_tryWhole 104 = .ok (.invokevirtual 169, 3) := by decide +kernel
theorem dX1_tryWhole_107 : decode cX1_tryWhole 107 = .ok (.aload_n 0, 1) := by decide +kernel
theorem dX1_tryWhole_108 : decode cX1_tryWhole 108 = .ok (.getfield 27, 3) := by decide +kernel
theorem dX1_tryWhole_111 : decode cX1_tryWhole 111 = .ok (.iload_n 3, 1) := by decide +kernel
theorem dX1_tryWhole_112 : decode cX1_tryWhole 112 = .ok (.iaload, 1) := by decide +kernel
theorem dX1_tryWhole_113 : decode cX1_tryWhole 113 = .ok (.iadd, 1) := by decide +kernel
theorem dX1_tryWhole_114 : decode cX1_tryWhole 114 = .ok (.istore 4, 2) := by decide +kernel
theorem dX1_tryWhole_116 : decode cX1_tryWhole 116 = .ok (.iload 4, 2) := by decide +kernel
theorem dX1_tryWhole_118 : decode cX1_tryWhole 118 = .ok (.sipush 300, 3) := by decide +kernel
theorem dX1_tryWhole_121 : decode cX1_tryWhole 121 = .ok (.if_icmp .gt 41, 3) := by decide +kernel
theorem dX1_tryWhole_162 : decode cX1_tryWhole 162 = .ok (.return_, 1) := by decide +kernel
theorem dX1_tryWhole_124 : decode cX1_tryWhole 124 = .ok (.aload_n 0, 1) := by decide +kernel
theorem dX1_tryWhole_125 : decode cX1_tryWhole 125 = .ok (.dup, 1) := by decide +kernel
theorem dX1_tryWhole_126 : decode cX1_tryWhole 126 = .ok (.getfield 69, 3) := by decide +kernel
theorem dX1_tryWhole_129 : decode cX1_tryWhole 129 = .ok (.iconst 1, 1) := by decide +kernel
theorem dX1_tryWhole_130 : decode cX1_tryWhole 130 = .ok (.iadd, 1) := by decide +kernel
theorem dX1_tryWhole_131 : decode cX1_tryWhole 131 = .ok (.putfield 69, 3) := by decide +kernel
theorem dX1_tryWhole_134 : decode cX1_tryWhole 134 = .ok (.aload_n 0, 1) := by decide +kernel
theorem dX1_tryWhole_135 : decode cX1_tryWhole 135 = .ok (.iload_n 1, 1) := by decide +kernel
theorem dX1_tryWhole_136 : decode cX1_tryWhole 136 = .ok (.iload_n 2, 1) := by decide +kernel
theorem dX1_tryWhole_137 : decode cX1_tryWhole 137 = .ok (.aload_n 0, 1) := by decide +kernel
theorem dX1_tryWhole_138 : decode cX1_tryWhole 138 = .ok (.getfield 62, 3) := by decide +kernel
theorem dX1_tryWhole_141 : decode cX1_tryWhole 141 = .ok (.aload_n 0, 1) := by decide +kernel
theorem dX1_tryWhole_142 : decode cX1_tryWhole 142 = .ok (.getfield 20, 3) := by decide +kernel
theorem dX1_tryWhole_145 : decode cX1_tryWhole 145 = .ok (.iload_n 3, 1) := by decide +kernel
theorem dX1_tryWhole_146 : decode cX1_tryWhole 146 = .ok (.iaload, 1) := by decide +kernel
set_option maxRecDepth 20000 in
theorem ggX1_tryWhole_X8_sumWith : GoodIn wsX1_tryWhole wsX8_sumWith := goodIn_r _ [118, 17, 34, 16, 86, 87, 88, 89, 90, 91, 92, 93, 94, 95, 96, 97, 98, 99, 100, 101, 102, 103, 104, 105, 106, 107, 152, 153, 154, 155, 156, 157, 166, 167, 168] rfl (by decide +kernel)
set_option maxRecDepth 20000 in
theorem gX1_tryWhole_X8_sumWith : GoodIn wsX1_tryWhole (wsV RX1 172 RX8 yX8_sumWith wsX8_sumWith) := goodIn_app (goodIn_r _ [115, 116, 117, 13] rfl (by decide +kernel)) ggX1_tryWhole_X8_sumWith
theorem dX1_tryWhole_147 : decode cX1_tryWhole 147 = .ok (.invokevirtual 172, 3) := by decide +kernel
theorem dX1_tryWhole_150 : decode cX1_tryWhole 150 = .ok (.aload_n 0, 1) := by decide +kernel
theorem dX1_tryWhole_151 : decode cX1_tryWhole 151 = .ok (.getfield 24, 3) := by decide +kernel
theorem dX1_tryWhole_154 : decode cX1_tryWhole 154 = .ok (.iload_n 3, 1) := by decide +kernel
theorem dX1_tryWhole_155 : decode cX1_tryWhole 155 = .ok (.iaload, 1) := by decide +kernel
theorem dX1_tryWhole_156 : decode cX1_tryWhole 156 = .ok (.iadd, 1) := by decide +kernel
theorem dX1_tryWhole_157 : decode cX1_tryWhole 157 = .ok (.iload 4, 2) := by decide +kernel
set_option maxRecDepth 20000 in
theorem ggX1_tryWhole_X1_keep : GoodIn wsX1_tryWhole wsX1_keep := goodIn_r _ [123, 124, 125, 126, 127, 37, 128, 129, 130, 131, 132, 133, 134, 135, 136, 137, 138, 139, 140, 141, 142, 143, 144, 145, 146, 147, 148, 149, 150, 151] rfl (by decide +kernel)
set_option maxRecDepth 20000 in
theorem gX1_tryWhole_X1_keep : GoodIn wsX1_tryWhole (wsV RX1 175 RX1 yX1_keep wsX1_keep) := goodIn_app (goodIn_r _ [119, 120, 121, 122] rfl (by decide +kernel)) ggX1_tryWhole_X1_keep
theorem dX1_tryWhole_159 : decode cX1_tryWhole 159 = .ok (.invokevirtual 175, 3) := by decide +kernel
theorem dX1_tryWhole_99 : decode cX1_tryWhole 99 = .ok (.return_, 1) := by decide +kernel
theorem dX1_tryWhole_20 : decode cX1_tryWhole 20 = .ok (.aload_n 0, 1) := by decide +kernel
theorem dX1_tryWhole_21 : decode cX1_tryWhole 21 = .ok (.getfield 62, 3) := by decide +kernel
theorem dX1_tryWhole_24 : decode cX1_tryWhole 24 = .ok (.invokevirtual 162, 3) := by decide +kernel
theorem dX1_tryWhole_27 : decode cX1_tryWhole 27 = .ok (.aload_n 0, 1) := by decide +kernel
theorem dX1_tryWhole_28 : decode cX1_tryWhole 28 = .ok (.getfield 85, 3) := by decide +kernel
theorem dX1_tryWhole_31 : decode cX1_tryWhole 31 = .ok (.if_icmp .gt 35, 3) := by decide +kernel
theorem dX1_tryWhole_34 : decode cX1_tryWhole 34 = .ok (.aload_n 0, 1) := by decide +kernel
theorem dX1_tryWhole_35 : decode cX1_tryWhole 35 = .ok (.getfield 62, 3) := by decide +kernel
theorem dX1_tryWhole_38 : decode cX1_tryWhole 38 = .ok (.aload_n 0, 1) := by decide +kernel
theorem dX1_tryWhole_39 : decode cX1_tryWhole 39 = .ok (.getfield 76, 3) := by decide +kernel
theorem dX1_tryWhole_42 : decode cX1_tryWhole 42 = .ok (.aload_n 0, 1) := by decide +kernel
theorem dX1_tryWhole_43 : decode cX1_tryWhole 43 = .ok (.getfield 16, 3) := by decide +kernel
theorem dX1_tryWhole_46 : decode cX1_tryWhole 46 = .ok (.aload_n 0, 1) := by decide +kernel
theorem dX1_tryWhole_47 : decode cX1_tryWhole 47 = .ok (.getfield 16, 3) := by decide +kernel
set_option maxRecDepth 20000 in
theorem ggX1_tryWhole_X5_length : GoodIn wsX1_tryWhole wsX5_length := goodIn_r _ [27, 28, 158, 159] rfl (by decide +kernel)
set_option maxRecDepth 20000 in
theorem gX1_tryWhole_X5_length : GoodIn wsX1_tryWhole (wsV RX1 91 RX5 yX5_length wsX5_length) := goodIn_app (goodIn_r _ [23, 24, 25, 26] rfl (by decide +kernel)) ggX1_tryWhole_X5_length
theorem dX1_tryWhole_50 : decode cX1_tryWhole 50 = .ok (.invokevirtual 91, 3) := by decide +kernel
set_option maxRecDepth 20000 in
theorem ggX1_tryWhole_X8_step : GoodIn wsX1_tryWhole wsX8_step := goodIn_r _ [32, 33, 15, 17, 34, 16, 18, 35, 36, 37, 38, 39, 40, 41, 42, 43, 44, 45, 46, 26, 47, 28, 48, 49, 50, 51, 52, 53, 54, 55, 56, 57, 58, 59, 60, 61, 62, 63, 64, 65, 66, 67, 68, 69, 70, 71, 72, 73, 74, 75, 76, 77, 78, 79, 80, 81, 82, 83, 84, 85, 86, 87, 88, 89, 90, 91, 92, 93, 94, 95, 96, 97, 98, 99, 100, 101, 102, 103, 104, 105, 106, 107, 108, 109, 110, 152, 153, 154, 155, 156, 157, 158, 159, 160, 161, 162, 163, 164, 165, 166, 167, 168] rfl (by decide +kernel)
set_option maxRecDepth 20000 in
theorem gX1_tryWhole_X8_step : GoodIn wsX1_tryWhole (wsV RX1 165 RX8 yX8_step wsX8_step) := goodIn_app (goodIn_r _ [29, 30, 31, 13] rfl (by decide +kernel)) ggX1_tryWhole_X8_step
theorem dX1_tryWhole_53 : decode cX1_tryWhole 53 = .ok (.invokevirtual 165, 3) := by decide +kernel
theorem dX1_tryWhole_56 : decode cX1_tryWhole 56 = .ok (.ifCond .ne 4, 3) := by decide +kernel
theorem dX1_tryWhole_60 : decode cX1_tryWhole 60 = .ok (.iinc 3 1, 3) := by decide +kernel
theorem dX1_tryWhole_63 : decode cX1_tryWhole 63 = .ok (.goto (-50), 3) := by decide +kernel
theorem dX1_tryWhole_59 : decode cX1_tryWhole 59 = .ok (.return_, 1) := by decide +kernel
