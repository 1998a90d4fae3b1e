theorem dX6_tryUndone_0 : decode cX6_tryUndone 0 = .ok (.aload_n 0, 1) := by decide +kernel
theorem dX6_tryUndone_1 : decode cX6_tryUndone 1 = .ok (.getfield 56, 3) := by decide +kernel
set_option maxRecDepth 20000 in
theorem ggX6_tryUndone_X8_begin : GoodIn wsX6_tryUndone wsX8_begin := goodIn_r _ [9, 10, 11, 12, 13, 186, 187, 188, 189, 190, 191] rfl (by decide +kernel)
set_option maxRecDepth 20000 in
theorem gX6_tryUndone_X8_begin : GoodIn wsX6_tryUndone (wsV RX6 98 RX8 yX8_begin wsX8_begin) := goodIn_app (goodIn_r _ [5, 6, 7, 8] rfl (by decide +kernel)) ggX6_tryUndone_X8_begin
theorem dX6_tryUndone_4 : decode cX6_tryUndone 4 = .ok (.invokevirtual 98, 3) := by decide +kernel
theorem dX6_tryUndone_7 : decode cX6_tryUndone 7 = .ok (.aload_n 0, 1) := by decide +kernel
theorem dX6_tryUndone_8 : decode cX6_tryUndone 8 = .ok (.getfield 14, 3) := by decide +kernel
theorem dX6_tryUndone_11 : decode cX6_tryUndone 11 = .ok (.iconst 0, 1) := by decide +kernel
set_option maxRecDepth 20000 in
theorem ggX6_tryUndone_X5_cut : GoodIn wsX6_tryUndone wsX5_cut := goodIn_r _ [18, 19, 192, 193] rfl (by decide +kernel)
set_option maxRecDepth 20000 in
theorem gX6_tryUndone_X5_cut : GoodIn wsX6_tryUndone (wsV RX6 101 RX5 yX5_cut wsX5_cut) := goodIn_app (goodIn_r _ [14, 15, 16, 17] rfl (by decide +kernel)) ggX6_tryUndone_X5_cut
theorem dX6_tryUndone_12 : decode cX6_tryUndone 12 = .ok (.invokevirtual 101, 3) := by decide +kernel
theorem dX6_tryUndone_15 : decode cX6_tryUndone 15 = .ok (.iload_n 2, 1) := by decide +kernel
theorem dX6_tryUndone_16 : decode cX6_tryUndone 16 = .ok (.istore 5, 2) := by decide +kernel
theorem dX6_tryUndone_18 : decode cX6_tryUndone 18 = .ok (.iload 5, 2) := by decide +kernel
theorem dX6_tryUndone_20 : decode cX6_tryUndone 20 = .ok (.iload 4, 2) := by decide +kernel
theorem dX6_tryUndone_22 : decode cX6_tryUndone 22 = .ok (.if_icmp .ge 114, 3) := by decide +kernel
theorem dX6_tryUndone_136 : decode cX6_tryUndone 136 = .ok (.return_, 1) := by decide +kernel
theorem dX6_tryUndone_25 : decode cX6_tryUndone 25 = .ok (.aload_n 0, 1) := by decide +kernel
theorem dX6_tryUndone_26 : decode cX6_tryUndone 26 = .ok (.getfield 39, 3) := by decide +kernel
theorem dX6_tryUndone_29 : decode cX6_tryUndone 29 = .ok (.aload_n 0, 1) := by decide +kernel
theorem dX6_tryUndone_30 : decode cX6_tryUndone 30 = .ok (.getfield 43, 3) := by decide +kernel
theorem dX6_tryUndone_33 : decode cX6_tryUndone 33 = .ok (.iload_n 1, 1) := by decide +kernel
set_option maxRecDepth 20000 in
theorem ggX6_tryUndone_X4_readIn : GoodIn wsX6_tryUndone wsX4_readIn := goodIn_r _ [24, 25, 26, 194, 195, 196, 197] rfl (by decide +kernel)
set_option maxRecDepth 20000 in
theorem gX6_tryUndone_X4_readIn : GoodIn wsX6_tryUndone (wsV RX6 104 RX4 yX4_readIn wsX4_readIn) := goodIn_app (goodIn_r _ [20, 21, 22, 23] rfl (by decide +kernel)) ggX6_tryUndone_X4_readIn
theorem dX6_tryUndone_34 : decode cX6_tryUndone 34 = .ok (.invokevirtual 104, 3) := by decide +kernel
theorem dX6_tryUndone_37 : decode cX6_tryUndone 37 = .ok (.aload_n 3, 1) := by decide +kernel
theorem dX6_tryUndone_38 : decode cX6_tryUndone 38 = .ok (.iload 5, 2) := by decide +kernel
set_option maxRecDepth 20000 in
theorem ggX6_tryUndone_X5_get : GoodIn wsX6_tryUndone wsX5_get := goodIn_r _ [30, 19, 31, 192, 193] rfl (by decide +kernel)
set_option maxRecDepth 20000 in
theorem gX6_tryUndone_X5_get : GoodIn wsX6_tryUndone (wsV RX6 85 RX5 yX5_get wsX5_get) := goodIn_app (goodIn_r _ [27, 28, 29, 17] rfl (by decide +kernel)) ggX6_tryUndone_X5_get
theorem dX6_tryUndone_40 : decode cX6_tryUndone 40 = .ok (.invokevirtual 85, 3) := by decide +kernel
theorem dX6_tryUndone_43 : decode cX6_tryUndone 43 = .ok (.aload_n 0, 1) := by decide +kernel
theorem dX6_tryUndone_44 : decode cX6_tryUndone 44 = .ok (.getfield 14, 3) := by decide +kernel
set_option maxRecDepth 20000 in
theorem ggX6_tryUndone_X2_encode : GoodIn wsX6_tryUndone wsX2_encode := goodIn_r _ [36, 37, 38, 39, 17, 40, 19, 31, 41, 42, 35, 43, 44, 45, 46, 47, 48, 49, 50, 51, 52, 53, 54, 55, 56, 57, 58, 59, 60, 61, 62, 63, 64, 65, 66, 67, 192, 193, 198, 199, 200, 201, 202, 203] rfl (by decide +kernel)
set_option maxRecDepth 20000 in
theorem gX6_tryUndone_X2_encode : GoodIn wsX6_tryUndone (wsV RX6 107 RX2 yX2_encode wsX2_encode) := goodIn_app (goodIn_r _ [32, 33, 34, 35] rfl (by decide +kernel)) ggX6_tryUndone_X2_encode
theorem dX6_tryUndone_47 : decode cX6_tryUndone 47 = .ok (.invokevirtual 107, 3) := by decide +kernel
theorem dX6_tryUndone_50 : decode cX6_tryUndone 50 = .ok (.ifCond .ne 4, 3) := by decide +kernel
theorem dX6_tryUndone_54 : decode cX6_tryUndone 54 = .ok (.aload_n 0, 1) := by decide +kernel
theorem dX6_tryUndone_55 : decode cX6_tryUndone 55 = .ok (.getfield 56, 3) := by decide +kernel
theorem dX6_tryUndone_58 : decode cX6_tryUndone 58 = .ok (.aload_n 0, 1) := by decide +kernel
theorem dX6_tryUndone_59 : decode cX6_tryUndone 59 = .ok (.getfield 43, 3) := by decide +kernel
theorem dX6_tryUndone_62 : decode cX6_tryUndone 62 = .ok (.iload_n 1, 1) := by decide +kernel
set_option maxRecDepth 20000 in
theorem ggX6_tryUndone_X4_writtenIn : GoodIn wsX6_tryUndone wsX4_writtenIn := goodIn_r _ [71, 25, 72, 194, 195, 196, 197] rfl (by decide +kernel)
set_option maxRecDepth 20000 in
theorem gX6_tryUndone_X4_writtenIn : GoodIn wsX6_tryUndone (wsV RX6 113 RX4 yX4_writtenIn wsX4_writtenIn) := goodIn_app (goodIn_r _ [68, 69, 70, 23] rfl (by decide +kernel)) ggX6_tryUndone_X4_writtenIn
theorem dX6_tryUndone_63 : decode cX6_tryUndone 63 = .ok (.invokevirtual 113, 3) := by decide +kernel
theorem dX6_tryUndone_66 : decode cX6_tryUndone 66 = .ok (.aload_n 0, 1) := by decide +kernel
theorem dX6_tryUndone_67 : decode cX6_tryUndone 67 = .ok (.getfield 14, 3) := by decide +kernel
theorem dX6_tryUndone_70 : decode cX6_tryUndone 70 = .ok (.aload_n 0, 1) := by decide +kernel
theorem dX6_tryUndone_71 : decode cX6_tryUndone 71 = .ok (.getfield 14, 3) := by decide +kernel
set_option maxRecDepth 20000 in
theorem ggX6_tryUndone_X5_length : GoodIn wsX6_tryUndone wsX5_length := goodIn_r _ [76, 19, 192, 193] rfl (by decide +kernel)
set_option maxRecDepth 20000 in
theorem gX6_tryUndone_X5_length : GoodIn wsX6_tryUndone (wsV RX6 64 RX5 yX5_length wsX5_length) := goodIn_app (goodIn_r _ [73, 74, 75, 17] rfl (by decide +kernel)) ggX6_tryUndone_X5_length
theorem dX6_tryUndone_74 : decode cX6_tryUndone 74 = .ok (.invokevirtual 64, 3) := by decide +kernel
set_option maxRecDepth 20000 in
theorem ggX6_tryUndone_X8_goOn : GoodIn wsX6_tryUndone wsX8_goOn := goodIn_r _ [80, 10, 81, 82, 83, 8, 84, 85, 12, 86, 11, 13, 87, 88, 89, 90, 91, 92, 93, 35, 94, 95, 28, 29, 17, 30, 19, 31, 96, 97, 98, 99, 50, 51, 52, 53, 54, 55, 100, 101, 102, 59, 103, 104, 105, 106, 107, 108, 109, 110, 111, 112, 113, 114, 115, 116, 117, 118, 119, 44, 45, 46, 120, 121, 122, 123, 124, 125, 126, 127, 128, 129, 130, 131, 132, 133, 134, 135, 136, 137, 138, 139, 140, 141, 142, 143, 144, 145, 146, 147, 186, 187, 188, 189, 190, 191, 192, 193, 198, 199, 200, 201, 202, 203, 204, 205, 206] rfl (by decide +kernel)
set_option maxRecDepth 20000 in
theorem gX6_tryUndone_X8_goOn : GoodIn wsX6_tryUndone (wsV RX6 116 RX8 yX8_goOn wsX8_goOn) := goodIn_app (goodIn_r _ [77, 78, 79, 8] rfl (by decide +kernel)) ggX6_tryUndone_X8_goOn
theorem dX6_tryUndone_77 : decode cX6_tryUndone 77 = .ok (.invokevirtual 116, 3) := by decide +kernel
theorem dX6_tryUndone_80 : decode cX6_tryUndone 80 = .ok (.aload_n 0, 1) := by decide +kernel
theorem dX6_tryUndone_81 : decode cX6_tryUndone 81 = .ok (.getfield 56, 3) := by decide +kernel
set_option maxRecDepth 20000 in
theorem ggX6_tryUndone_X8_letters : GoodIn wsX6_tryUndone wsX8_letters := goodIn_r _ [151, 13, 186, 187, 188, 189, 190, 191] rfl (by decide +kernel)
set_option maxRecDepth 20000 in
theorem gX6_tryUndone_X8_letters : GoodIn wsX6_tryUndone (wsV RX6 119 RX8 yX8_letters wsX8_letters) := goodIn_app (goodIn_r _ [148, 149, 150, 8] rfl (by decide +kernel)) ggX6_tryUndone_X8_letters
theorem dX6_tryUndone_84 : decode cX6_tryUndone 84 = .ok (.invokevirtual 119, 3) := by decide +kernel
theorem dX6_tryUndone_87 : decode cX6_tryUndone 87 = .ok (.sipush 300, 3) := by decide +kernel
theorem dX6_tryUndone_90 : decode cX6_tryUndone 90 = .ok (.if_icmp .le 4, 3) := by decide +kernel
theorem dX6_tryUndone_94 : decode cX6_tryUndone 94 = .ok (.aload_n 0, 1) := by decide +kernel
theorem dX6_tryUndone_95 : decode cX6_tryUndone 95 = .ok (.getfield 56, 3) := by decide +kernel
set_option maxRecDepth 20000 in
theorem ggX6_tryUndone_X8_reached : GoodIn wsX6_tryUndone wsX8_reached := goodIn_r _ [155, 10, 186, 187, 188, 189, 190, 191] rfl (by decide +kernel)
set_option maxRecDepth 20000 in
theorem gX6_tryUndone_X8_reached : GoodIn wsX6_tryUndone (wsV RX6 122 RX8 yX8_reached wsX8_reached) := goodIn_app (goodIn_r _ [152, 153, 154, 8] rfl (by decide +kernel)) ggX6_tryUndone_X8_reached
theorem dX6_tryUndone_98 : decode cX6_tryUndone 98 = .ok (.invokevirtual 122, 3) := by decide +kernel
theorem dX6_tryUndone_101 : decode cX6_tryUndone 101 = .ok (.aload_n 0, 1) := by decide +kernel
theorem dX6_tryUndone_102 : decode cX6_tryUndone 102 = .ok (.getfield 14, 3) := by decide +kernel
theorem dX6_tryUndone_105 : decode cX6_tryUndone 105 = .ok (.invokevirtual 64, 3) := by decide +kernel
theorem dX6_tryUndone_108 : decode cX6_tryUndone 108 = .ok (.if_icmp .ne 22, 3) := by decide +kernel
theorem dX6_tryUndone_130 : decode cX6_tryUndone 130 = .ok (.iinc 5 1, 3) := by decide +kernel
theorem dX6_tryUndone_133 : decode cX6_tryUndone 133 = .ok (.goto (-115), 3) := by decide +kernel
theorem dX6_tryUndone_111 : decode cX6_tryUndone 111 = .ok (.aload_n 0, 1) := by decide +kernel
theorem dX6_tryUndone_112 : decode cX6_tryUndone 112 = .ok (.iload_n 2, 1) := by decide +kernel
theorem dX6_tryUndone_113 : decode cX6_tryUndone 113 = .ok (.iload 5, 2) := by decide +kernel
theorem dX6_tryUndone_115 : decode cX6_tryUndone 115 = .ok (.iconst 1, 1) := by decide +kernel
theorem dX6_tryUndone_116 : decode cX6_tryUndone 116 = .ok (.iadd, 1) := by decide +kernel
theorem dX6_tryUndone_117 : decode cX6_tryUndone 117 = .ok (.iload_n 1, 1) := by decide +kernel
theorem dX6_tryUndone_118 : decode cX6_tryUndone 118 = .ok (.aload_n 0, 1) := by decide +kernel
theorem dX6_tryUndone_119 : decode cX6_tryUndone 119 = .ok (.getfield 56, 3) := by decide +kernel
theorem dX6_tryUndone_122 : decode cX6_tryUndone 122 = .ok (.bipush 32, 2) := by decide +kernel
set_option maxRecDepth 20000 in
theorem ggX6_tryUndone_X8_sumWith : GoodIn wsX6_tryUndone wsX8_sumWith := goodIn_r _ [159, 12, 86, 11, 123, 124, 125, 126, 127, 128, 129, 130, 131, 132, 133, 134, 135, 136, 137, 138, 139, 140, 141, 142, 143, 144, 186, 187, 188, 189, 190, 191, 204, 205, 206] rfl (by decide +kernel)
set_option maxRecDepth 20000 in
theorem gX6_tryUndone_X8_sumWith : GoodIn wsX6_tryUndone (wsV RX6 125 RX8 yX8_sumWith wsX8_sumWith) := goodIn_app (goodIn_r _ [156, 157, 158, 8] rfl (by decide +kernel)) ggX6_tryUndone_X8_sumWith
theorem dX6_tryUndone_124 : decode cX6_tryUndone 124 = .ok (.invokevirtual 125, 3) := by decide +kernel
set_option maxRecDepth 20000 in
theorem ggX6_tryUndone_X6_offer : GoodIn wsX6_tryUndone wsX6_offer := goodIn_r _ [164, 165, 166, 167, 168, 169, 170, 171, 172, 163, 173, 174, 175, 176, 177, 178, 179, 180, 181, 182, 183, 184, 185] rfl (by decide +kernel)
set_option maxRecDepth 20000 in
theorem gX6_tryUndone_X6_offer : GoodIn wsX6_tryUndone (wsV RX6 94 RX6 yX6_offer wsX6_offer) := goodIn_app (goodIn_r _ [160, 161, 162, 163] rfl (by decide +kernel)) ggX6_tryUndone_X6_offer
theorem dX6_tryUndone_127 : decode cX6_tryUndone 127 = .ok (.invokevirtual 94, 3) := by decide +kernel
theorem dX6_tryUndone_93 : decode cX6_tryUndone 93 = .ok (.return_, 1) := by decide +kernel
theorem dX6_tryUndone_53 : decode cX6_tryUndone 53 = .ok (.return_, 1) := by decide +kernel
