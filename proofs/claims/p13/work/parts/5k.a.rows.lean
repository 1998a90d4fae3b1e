theorem dX1_find_0 : decode cX1_find 0 = .ok (.aload_n 0, 1) := by decide +kernel
theorem dX1_find_1 : decode cX1_find 1 = .ok (.iload_n 1, 1) := by decide +kernel
theorem dX1_find_2 : decode cX1_find 2 = .ok (.putfield 76, 3) := by decide +kernel
theorem dX1_find_5 : decode cX1_find 5 = .ok (.aload_n 0, 1) := by decide +kernel
theorem dX1_find_6 : decode cX1_find 6 = .ok (.iload_n 2, 1) := by decide +kernel
theorem dX1_find_7 : decode cX1_find 7 = .ok (.putfield 79, 3) := by decide +kernel
theorem dX1_find_10 : decode cX1_find 10 = .ok (.aload_n 0, 1) := by decide +kernel
theorem dX1_find_11 : decode cX1_find 11 = .ok (.iconst 0, 1) := by decide +kernel
theorem dX1_find_12 : decode cX1_find 12 = .ok (.putfield 65, 3) := by decide +kernel
theorem dX1_find_15 : decode cX1_find 15 = .ok (.aload_n 0, 1) := by decide +kernel
theorem dX1_find_16 : decode cX1_find 16 = .ok (.iconst 0, 1) := by decide +kernel
theorem dX1_find_17 : decode cX1_find 17 = .ok (.putfield 69, 3) := by decide +kernel
theorem dX1_find_20 : decode cX1_find 20 = .ok (.aload_n 0, 1) := by decide +kernel
set_option maxRecDepth 20000 in
theorem ggX1_find_X1_findTails : GoodIn wsX1_find wsX1_findTails := goodIn_r _ [16, 7, 17, 18, 19, 20, 21, 22, 23, 8, 10, 1, 24, 25, 26, 27, 28, 29, 30, 31, 32, 33, 34, 35, 36, 37, 38, 39, 40, 41, 42, 43, 44, 45, 46, 47, 48, 49, 50, 51, 52, 53, 54, 55, 56, 57, 58, 59, 60, 61, 62, 63, 64, 65, 66, 67, 68, 69, 70, 71, 72, 73, 74, 75, 76, 77, 78, 79, 80, 81, 82, 83, 84, 85, 86, 87, 88, 89, 90, 91, 92, 93, 94, 95, 96, 97, 98, 99, 100, 101, 102, 172, 173, 174, 175, 176, 177, 178, 179, 180, 181, 182, 183, 184, 185, 186, 187, 188, 189, 190, 191, 192, 193, 194, 195, 196, 197, 198, 199, 200, 201, 202] rfl (by decide +kernel)
set_option maxRecDepth 20000 in
theorem gX1_find_X1_findTails : GoodIn wsX1_find (wsV RX1 110 RX1 yX1_findTails wsX1_findTails) := goodIn_app (goodIn_r _ [12, 13, 14, 15] rfl (by decide +kernel)) ggX1_find_X1_findTails
theorem dX1_find_21 : decode cX1_find 21 = .ok (.invokevirtual 110, 3) := by decide +kernel
theorem dX1_find_24 : decode cX1_find 24 = .ok (.aload_n 0, 1) := by decide +kernel
theorem dX1_find_25 : decode cX1_find 25 = .ok (.getfield 55, 3) := by decide +kernel
set_option maxRecDepth 20000 in
theorem ggX1_find_X8_begin : GoodIn wsX1_find wsX8_begin := goodIn_r _ [107, 108, 109, 110, 111, 203, 204, 205, 206, 207, 208] rfl (by decide +kernel)
set_option maxRecDepth 20000 in
theorem gX1_find_X8_begin : GoodIn wsX1_find (wsV RX1 113 RX8 yX8_begin wsX8_begin) := goodIn_app (goodIn_r _ [103, 104, 105, 106] rfl (by decide +kernel)) ggX1_find_X8_begin
theorem dX1_find_28 : decode cX1_find 28 = .ok (.invokevirtual 113, 3) := by decide +kernel
theorem dX1_find_31 : decode cX1_find 31 = .ok (.aload_n 0, 1) := by decide +kernel
theorem dX1_find_32 : decode cX1_find 32 = .ok (.getfield 82, 3) := by decide +kernel
theorem dX1_find_35 : decode cX1_find 35 = .ok (.iconst (-1), 1) := by decide +kernel
theorem dX1_find_36 : decode cX1_find 36 = .ok (.if_icmp .ne 38, 3) := by decide +kernel
theorem dX1_find_74 : decode cX1_find 74 = .ok (.aload_n 0, 1) := by decide +kernel
theorem dX1_find_75 : decode cX1_find 75 = .ok (.getfield 55, 3) := by decide +kernel
theorem dX1_find_78 : decode cX1_find 78 = .ok (.iload_n 1, 1) := by decide +kernel
theorem dX1_find_79 : decode cX1_find 79 = .ok (.aload_n 0, 1) := by decide +kernel
theorem dX1_find_80 : decode cX1_find 80 = .ok (.getfield 16, 3) := by decide +kernel
theorem dX1_find_83 : decode cX1_find 83 = .ok (.aload_n 0, 1) := by decide +kernel
theorem dX1_find_84 : decode cX1_find 84 = .ok (.getfield 82, 3) := by decide +kernel
set_option maxRecDepth 20000 in
theorem ggX1_find_X8_goOn : GoodIn wsX1_find wsX8_goOn := goodIn_r _ [115, 108, 116, 117, 118, 106, 119, 120, 110, 121, 109, 111, 122, 123, 19, 124, 125, 32, 33, 34, 35, 36, 37, 38, 28, 39, 30, 40, 41, 42, 43, 44, 45, 46, 47, 48, 49, 50, 51, 52, 53, 54, 55, 56, 57, 58, 59, 60, 61, 62, 63, 64, 65, 66, 67, 68, 69, 70, 71, 72, 73, 74, 126, 79, 80, 127, 82, 83, 84, 85, 86, 87, 88, 89, 90, 91, 92, 93, 94, 95, 96, 97, 98, 99, 100, 101, 102, 128, 76, 77, 203, 204, 205, 206, 207, 208, 192, 193, 194, 195, 196, 197, 198, 199, 200, 201, 202] rfl (by decide +kernel)
set_option maxRecDepth 20000 in
theorem gX1_find_X8_goOn : GoodIn wsX1_find (wsV RX1 116 RX8 yX8_goOn wsX8_goOn) := goodIn_app (goodIn_r _ [112, 113, 114, 106] rfl (by decide +kernel)) ggX1_find_X8_goOn
theorem dX1_find_87 : decode cX1_find 87 = .ok (.invokevirtual 116, 3) := by decide +kernel
theorem dX1_find_90 : decode cX1_find 90 = .ok (.iconst 0, 1) := by decide +kernel
theorem dX1_find_91 : decode cX1_find 91 = .ok (.istore_n 3, 1) := by decide +kernel
theorem dX1_find_92 : decode cX1_find 92 = .ok (.iload_n 3, 1) := by decide +kernel
theorem dX1_find_93 : decode cX1_find 93 = .ok (.sipush 256, 3) := by decide +kernel
theorem dX1_find_96 : decode cX1_find 96 = .ok (.if_icmp .ge 66, 3) := by decide +kernel
theorem dX1_find_162 : decode cX1_find 162 = .ok (.aload_n 0, 1) := by decide +kernel
theorem dX1_find_163 : decode cX1_find 163 = .ok (.iconst 1, 1) := by decide +kernel
theorem dX1_find_164 : decode cX1_find 164 = .ok (.putfield 72, 3) := by decide +kernel
theorem dX1_find_167 : decode cX1_find 167 = .ok (.aload_n 0, 1) := by decide +kernel
theorem dX1_find_168 : decode cX1_find 168 = .ok (.getfield 69, 3) := by decide +kernel
theorem dX1_find_171 : decode cX1_find 171 = .ok (.ireturn, 1) := by decide +kernel
theorem dX1_find_99 : decode cX1_find 99 = .ok (.aload_n 0, 1) := by decide +kernel
theorem dX1_find_100 : decode cX1_find 100 = .ok (.getfield 42, 3) := by decide +kernel
theorem dX1_find_103 : decode cX1_find 103 = .ok (.iload_n 2, 1) := by decide +kernel
theorem dX1_find_104 : decode cX1_find 104 = .ok (.iload_n 3, 1) := by decide +kernel
set_option maxRecDepth 20000 in
theorem ggX1_find_X2_letterAlone : GoodIn wsX1_find wsX2_letterAlone := goodIn_r _ [44, 45, 46, 47, 34, 48, 49, 50, 51, 52, 53, 54, 55, 56, 194, 195, 196, 197, 198, 199] rfl (by decide +kernel)
set_option maxRecDepth 20000 in
theorem gX1_find_X2_letterAlone : GoodIn wsX1_find (wsV RX1 127 RX2 yX2_letterAlone wsX2_letterAlone) := goodIn_app (goodIn_r _ [137, 42, 43, 34] rfl (by decide +kernel)) ggX1_find_X2_letterAlone
theorem dX1_find_105 : decode cX1_find 105 = .ok (.invokevirtual 127, 3) := by decide +kernel
theorem dX1_find_108 : decode cX1_find 108 = .ok (.iconst (-1), 1) := by decide +kernel
theorem dX1_find_109 : decode cX1_find 109 = .ok (.if_icmp .ne 47, 3) := by decide +kernel
theorem dX1_find_156 : decode cX1_find 156 = .ok (.iinc 3 1, 3) := by decide +kernel
theorem dX1_find_159 : decode cX1_find 159 = .ok (.goto (-67), 3) := by decide +kernel
theorem dX1_find_112 : decode cX1_find 112 = .ok (.aload_n 0, 1) := by decide +kernel
theorem dX1_find_113 : decode cX1_find 113 = .ok (.getfield 16, 3) := by decide +kernel
theorem dX1_find_116 : decode cX1_find 116 = .ok (.aload_n 0, 1) := by decide +kernel
theorem dX1_find_117 : decode cX1_find 117 = .ok (.getfield 82, 3) := by decide +kernel
theorem dX1_find_120 : decode cX1_find 120 = .ok (.iload_n 3, 1) := by decide +kernel
set_option maxRecDepth 20000 in
theorem ggX1_find_X5_set : GoodIn wsX1_find wsX5_set := goodIn_r _ [141, 30, 40, 192, 193] rfl (by decide +kernel)
set_option maxRecDepth 20000 in
theorem gX1_find_X5_set : GoodIn wsX1_find (wsV RX1 131 RX5 yX5_set wsX5_set) := goodIn_app (goodIn_r _ [138, 139, 140, 28] rfl (by decide +kernel)) ggX1_find_X5_set
theorem dX1_find_121 : decode cX1_find 121 = .ok (.invokevirtual 131, 3) := by decide +kernel
theorem dX1_find_124 : decode cX1_find 124 = .ok (.aload_n 0, 1) := by decide +kernel
theorem dX1_find_125 : decode cX1_find 125 = .ok (.getfield 59, 3) := by decide +kernel
theorem dX1_find_128 : decode cX1_find 128 = .ok (.aload_n 0, 1) := by decide +kernel
theorem dX1_find_129 : decode cX1_find 129 = .ok (.getfield 55, 3) := by decide +kernel
set_option maxRecDepth 20000 in
theorem ggX1_find_X8_takeAll : GoodIn wsX1_find wsX8_takeAll := goodIn_r _ [132, 108, 109, 110, 111, 203, 204, 205, 206, 207, 208] rfl (by decide +kernel)
set_option maxRecDepth 20000 in
theorem gX1_find_X8_takeAll : GoodIn wsX1_find (wsV RX1 120 RX8 yX8_takeAll wsX8_takeAll) := goodIn_app (goodIn_r _ [129, 130, 131, 106] rfl (by decide +kernel)) ggX1_find_X8_takeAll
theorem dX1_find_132 : decode cX1_find 132 = .ok (.invokevirtual 120, 3) := by decide +kernel
theorem dX1_find_135 : decode cX1_find 135 = .ok (.aload_n 0, 1) := by decide +kernel
theorem dX1_find_136 : decode cX1_find 136 = .ok (.getfield 59, 3) := by decide +kernel
theorem dX1_find_139 : decode cX1_find 139 = .ok (.iload_n 1, 1) := by decide +kernel
theorem dX1_find_140 : decode cX1_find 140 = .ok (.aload_n 0, 1) := by decide +kernel
theorem dX1_find_141 : decode cX1_find 141 = .ok (.getfield 16, 3) := by decide +kernel
theorem dX1_find_144 : decode cX1_find 144 = .ok (.aload_n 0, 1) := by decide +kernel
theorem dX1_find_145 : decode cX1_find 145 = .ok (.getfield 85, 3) := by decide +kernel
theorem dX1_find_148 : decode cX1_find 148 = .ok (.invokevirtual 116, 3) := by decide +kernel
theorem dX1_find_151 : decode cX1_find 151 = .ok (.aload_n 0, 1) := by decide +kernel
theorem dX1_find_152 : decode cX1_find 152 = .ok (.iload_n 3, 1) := by decide +kernel
set_option maxRecDepth 20000 in
theorem ggX1_find_X1_tryLast : GoodIn wsX1_find wsX1_tryLast := goodIn_r _ [136, 10, 2, 7, 8, 137, 42, 43, 34, 44, 45, 46, 47, 48, 49, 50, 51, 52, 53, 54, 55, 56, 138, 139, 140, 28, 141, 30, 40, 142, 143, 144, 15, 145, 6, 25, 26, 27, 29, 31, 32, 33, 35, 36, 37, 38, 39, 41, 57, 58, 59, 60, 61, 62, 63, 64, 65, 66, 67, 68, 69, 70, 71, 72, 73, 74, 146, 147, 148, 149, 150, 9, 1, 23, 4, 21, 22, 129, 130, 131, 106, 132, 108, 109, 110, 111, 151, 152, 153, 154, 155, 117, 118, 119, 120, 121, 122, 123, 19, 124, 125, 126, 79, 80, 127, 82, 83, 84, 85, 86, 87, 88, 89, 90, 91, 92, 93, 94, 95, 96, 97, 98, 99, 100, 101, 102, 128, 76, 77, 156, 157, 158, 159, 160, 161, 162, 163, 164, 165, 166, 167, 3, 168, 17, 18, 20, 169, 170, 171, 172, 173, 174, 175, 176, 177, 178, 179, 180, 181, 182, 183, 184, 185, 186, 187, 188, 189, 190, 191, 194, 195, 196, 197, 198, 199, 192, 193, 203, 204, 205, 206, 207, 208, 200, 201, 202] rfl (by decide +kernel)
set_option maxRecDepth 20000 in
theorem gX1_find_X1_tryLast : GoodIn wsX1_find (wsV RX1 124 RX1 yX1_tryLast wsX1_tryLast) := goodIn_app (goodIn_r _ [133, 134, 135, 15] rfl (by decide +kernel)) ggX1_find_X1_tryLast
theorem dX1_find_153 : decode cX1_find 153 = .ok (.invokevirtual 124, 3) := by decide +kernel
theorem dX1_find_39 : decode cX1_find 39 = .ok (.aload_n 0, 1) := by decide +kernel
theorem dX1_find_40 : decode cX1_find 40 = .ok (.getfield 55, 3) := by decide +kernel
theorem dX1_find_43 : decode cX1_find 43 = .ok (.iload_n 1, 1) := by decide +kernel
theorem dX1_find_44 : decode cX1_find 44 = .ok (.aload_n 0, 1) := by decide +kernel
theorem dX1_find_45 : decode cX1_find 45 = .ok (.getfield 16, 3) := by decide +kernel
theorem dX1_find_48 : decode cX1_find 48 = .ok (.aload_n 0, 1) := by decide +kernel
theorem dX1_find_49 : decode cX1_find 49 = .ok (.getfield 85, 3) := by decide +kernel
theorem dX1_find_52 : decode cX1_find 52 = .ok (.invokevirtual 116, 3) := by decide +kernel
theorem dX1_find_55 : decode cX1_find 55 = .ok (.aload_n 0, 1) := by decide +kernel
theorem dX1_find_56 : decode cX1_find 56 = .ok (.getfield 59, 3) := by decide +kernel
theorem dX1_find_59 : decode cX1_find 59 = .ok (.aload_n 0, 1) := by decide +kernel
theorem dX1_find_60 : decode cX1_find 60 = .ok (.getfield 55, 3) := by decide +kernel
theorem dX1_find_63 : decode cX1_find 63 = .ok (.invokevirtual 120, 3) := by decide +kernel
theorem dX1_find_66 : decode cX1_find 66 = .ok (.aload_n 0, 1) := by decide +kernel
theorem dX1_find_67 : decode cX1_find 67 = .ok (.iconst (-1), 1) := by decide +kernel
theorem dX1_find_68 : decode cX1_find 68 = .ok (.invokevirtual 124, 3) := by decide +kernel
theorem dX1_find_71 : decode cX1_find 71 = .ok (.goto 91, 3) := by decide +kernel
