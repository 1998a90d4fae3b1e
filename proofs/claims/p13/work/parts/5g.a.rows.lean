theorem dX5_set_0 : decode cX5_set 0 = .ok (.iload_n 1, 1) := by decide +kernel
theorem dX5_set_1 : decode cX5_set 1 = .ok (.ifCond .lt 18, 3) := by decide +kernel
theorem dX5_set_19 : decode cX5_set 19 = .ok (.return_, 1) := by decide +kernel
theorem dX5_set_4 : decode cX5_set 4 = .ok (.iload_n 1, 1) := by decide +kernel
theorem dX5_set_5 : decode cX5_set 5 = .ok (.aload_n 0, 1) := by decide +kernel
theorem dX5_set_6 : decode cX5_set 6 = .ok (.getfield 21, 3) := by decide +kernel
theorem dX5_set_9 : decode cX5_set 9 = .ok (.if_icmp .ge 10, 3) := by decide +kernel
theorem dX5_set_12 : decode cX5_set 12 = .ok (.aload_n 0, 1) := by decide +kernel
theorem dX5_set_13 : decode cX5_set 13 = .ok (.getfield 15, 3) := by decide +kernel
theorem dX5_set_16 : decode cX5_set 16 = .ok (.iload_n 1, 1) := by decide +kernel
theorem dX5_set_17 : decode cX5_set 17 = .ok (.iload_n 2, 1) := by decide +kernel
theorem dX5_set_18 : decode cX5_set 18 = .ok (.iastore, 1) := by decide +kernel
theorem dX1_layOut_0 : decode cX1_layOut 0 = .ok (.aload_n 0, 1) := by decide +kernel
theorem dX1_layOut_1 : decode cX1_layOut 1 = .ok (.getfield 16, 3) := by decide +kernel
theorem dX1_layOut_4 : decode cX1_layOut 4 = .ok (.iconst 0, 1) := by decide +kernel
set_option maxRecDepth 20000 in
theorem ggX1_layOut_X5_cut : GoodIn wsX1_layOut wsX5_cut := goodIn_r _ [10, 11, 78, 79] rfl (by decide +kernel)
set_option maxRecDepth 20000 in
theorem gX1_layOut_X5_cut : GoodIn wsX1_layOut (wsV RX1 88 RX5 yX5_cut wsX5_cut) := goodIn_app (goodIn_r _ [6, 7, 8, 9] rfl (by decide +kernel)) ggX1_layOut_X5_cut
theorem dX1_layOut_5 : decode cX1_layOut 5 = .ok (.invokevirtual 88, 3) := by decide +kernel
theorem dX1_layOut_8 : decode cX1_layOut 8 = .ok (.aload_n 0, 1) := by decide +kernel
theorem dX1_layOut_9 : decode cX1_layOut 9 = .ok (.iconst (-1), 1) := by decide +kernel
theorem dX1_layOut_10 : decode cX1_layOut 10 = .ok (.putfield 82, 3) := by decide +kernel
theorem dX1_layOut_13 : decode cX1_layOut 13 = .ok (.aload_n 0, 1) := by decide +kernel
theorem dX1_layOut_14 : decode cX1_layOut 14 = .ok (.iconst (-1), 1) := by decide +kernel
theorem dX1_layOut_15 : decode cX1_layOut 15 = .ok (.putfield 85, 3) := by decide +kernel
theorem dX1_layOut_18 : decode cX1_layOut 18 = .ok (.iconst 0, 1) := by decide +kernel
theorem dX1_layOut_19 : decode cX1_layOut 19 = .ok (.istore_n 3, 1) := by decide +kernel
theorem dX1_layOut_20 : decode cX1_layOut 20 = .ok (.iload_n 3, 1) := by decide +kernel
theorem dX1_layOut_21 : decode cX1_layOut 21 = .ok (.aload_n 2, 1) := by decide +kernel
set_option maxRecDepth 20000 in
theorem ggX1_layOut_X5_length : GoodIn wsX1_layOut wsX5_length := goodIn_r _ [15, 11, 78, 79] rfl (by decide +kernel)
set_option maxRecDepth 20000 in
theorem gX1_layOut_X5_length : GoodIn wsX1_layOut (wsV RX1 91 RX5 yX5_length wsX5_length) := goodIn_app (goodIn_r _ [12, 13, 14, 9] rfl (by decide +kernel)) ggX1_layOut_X5_length
theorem dX1_layOut_22 : decode cX1_layOut 22 = .ok (.invokevirtual 91, 3) := by decide +kernel
theorem dX1_layOut_25 : decode cX1_layOut 25 = .ok (.if_icmp .ge 72, 3) := by decide +kernel
theorem dX1_layOut_97 : decode cX1_layOut 97 = .ok (.iconst (-1), 1) := by decide +kernel
theorem dX1_layOut_98 : decode cX1_layOut 98 = .ok (.ireturn, 1) := by decide +kernel
theorem dX1_layOut_28 : decode cX1_layOut 28 = .ok (.aload_n 2, 1) := by decide +kernel
theorem dX1_layOut_29 : decode cX1_layOut 29 = .ok (.iload_n 3, 1) := by decide +kernel
set_option maxRecDepth 20000 in
theorem ggX1_layOut_X5_get : GoodIn wsX1_layOut wsX5_get := goodIn_r _ [19, 11, 20, 78, 79] rfl (by decide +kernel)
set_option maxRecDepth 20000 in
theorem gX1_layOut_X5_get : GoodIn wsX1_layOut (wsV RX1 95 RX5 yX5_get wsX5_get) := goodIn_app (goodIn_r _ [16, 17, 18, 9] rfl (by decide +kernel)) ggX1_layOut_X5_get
theorem dX1_layOut_30 : decode cX1_layOut 30 = .ok (.invokevirtual 95, 3) := by decide +kernel
theorem dX1_layOut_33 : decode cX1_layOut 33 = .ok (.ldc 99, 2) := by decide +kernel
theorem dX1_layOut_35 : decode cX1_layOut 35 = .ok (.if_icmp .ne 34, 3) := by decide +kernel
theorem dX1_layOut_69 : decode cX1_layOut 69 = .ok (.aload_n 0, 1) := by decide +kernel
theorem dX1_layOut_70 : decode cX1_layOut 70 = .ok (.getfield 42, 3) := by decide +kernel
theorem dX1_layOut_73 : decode cX1_layOut 73 = .ok (.iload_n 1, 1) := by decide +kernel
theorem dX1_layOut_74 : decode cX1_layOut 74 = .ok (.aload_n 2, 1) := by decide +kernel
theorem dX1_layOut_75 : decode cX1_layOut 75 = .ok (.iload_n 3, 1) := by decide +kernel
theorem dX1_layOut_76 : decode cX1_layOut 76 = .ok (.invokevirtual 95, 3) := by decide +kernel
theorem dX1_layOut_79 : decode cX1_layOut 79 = .ok (.aload_n 0, 1) := by decide +kernel
theorem dX1_layOut_80 : decode cX1_layOut 80 = .ok (.getfield 16, 3) := by decide +kernel
set_option maxRecDepth 20000 in
theorem ggX1_layOut_X2_encode : GoodIn wsX1_layOut wsX2_encode := goodIn_r _ [29, 30, 22, 23, 9, 24, 11, 20, 31, 32, 28, 33, 34, 35, 36, 37, 38, 39, 40, 41, 42, 43, 44, 45, 46, 47, 48, 49, 50, 51, 52, 53, 54, 55, 56, 57, 78, 79, 80, 81, 82, 83, 84, 85] rfl (by decide +kernel)
set_option maxRecDepth 20000 in
theorem gX1_layOut_X2_encode : GoodIn wsX1_layOut (wsV RX1 104 RX2 yX2_encode wsX2_encode) := goodIn_app (goodIn_r _ [25, 26, 27, 28] rfl (by decide +kernel)) ggX1_layOut_X2_encode
theorem dX1_layOut_83 : decode cX1_layOut 83 = .ok (.invokevirtual 104, 3) := by decide +kernel
theorem dX1_layOut_86 : decode cX1_layOut 86 = .ok (.ifCond .ne 5, 3) := by decide +kernel
theorem dX1_layOut_91 : decode cX1_layOut 91 = .ok (.iinc 3 1, 3) := by decide +kernel
theorem dX1_layOut_94 : decode cX1_layOut 94 = .ok (.goto (-74), 3) := by decide +kernel
theorem dX1_layOut_89 : decode cX1_layOut 89 = .ok (.iload_n 3, 1) := by decide +kernel
theorem dX1_layOut_90 : decode cX1_layOut 90 = .ok (.ireturn, 1) := by decide +kernel
theorem dX1_layOut_38 : decode cX1_layOut 38 = .ok (.aload_n 0, 1) := by decide +kernel
theorem dX1_layOut_39 : decode cX1_layOut 39 = .ok (.aload_n 0, 1) := by decide +kernel
theorem dX1_layOut_40 : decode cX1_layOut 40 = .ok (.getfield 85, 3) := by decide +kernel
theorem dX1_layOut_43 : decode cX1_layOut 43 = .ok (.putfield 82, 3) := by decide +kernel
theorem dX1_layOut_46 : decode cX1_layOut 46 = .ok (.aload_n 0, 1) := by decide +kernel
theorem dX1_layOut_47 : decode cX1_layOut 47 = .ok (.aload_n 0, 1) := by decide +kernel
theorem dX1_layOut_48 : decode cX1_layOut 48 = .ok (.getfield 16, 3) := by decide +kernel
theorem dX1_layOut_51 : decode cX1_layOut 51 = .ok (.invokevirtual 91, 3) := by decide +kernel
theorem dX1_layOut_54 : decode cX1_layOut 54 = .ok (.putfield 85, 3) := by decide +kernel
theorem dX1_layOut_57 : decode cX1_layOut 57 = .ok (.aload_n 0, 1) := by decide +kernel
theorem dX1_layOut_58 : decode cX1_layOut 58 = .ok (.getfield 16, 3) := by decide +kernel
theorem dX1_layOut_61 : decode cX1_layOut 61 = .ok (.iconst 0, 1) := by decide +kernel
set_option maxRecDepth 20000 in
theorem ggX1_layOut_X5_add : GoodIn wsX1_layOut wsX5_add := goodIn_r _ [24, 11, 20, 78, 79] rfl (by decide +kernel)
set_option maxRecDepth 20000 in
theorem gX1_layOut_X5_add : GoodIn wsX1_layOut (wsV RX1 100 RX5 yX5_add wsX5_add) := goodIn_app (goodIn_r _ [21, 22, 23, 9] rfl (by decide +kernel)) ggX1_layOut_X5_add
theorem dX1_layOut_62 : decode cX1_layOut 62 = .ok (.invokevirtual 100, 3) := by decide +kernel
theorem dX1_layOut_65 : decode cX1_layOut 65 = .ok (.pop, 1) := by decide +kernel
theorem dX1_layOut_66 : decode cX1_layOut 66 = .ok (.goto 25, 3) := by decide +kernel
theorem dX1_findTails_0 : decode cX1_findTails 0 = .ok (.aload_n 0, 1) := by decide +kernel
theorem dX1_findTails_1 : decode cX1_findTails 1 = .ok (.getfield 16, 3) := by decide +kernel
set_option maxRecDepth 20000 in
theorem ggX1_findTails_X5_length : GoodIn wsX1_findTails wsX5_length := goodIn_r _ [17, 18, 111, 112] rfl (by decide +kernel)
set_option maxRecDepth 20000 in
theorem gX1_findTails_X5_length : GoodIn wsX1_findTails (wsV RX1 91 RX5 yX5_length wsX5_length) := goodIn_app (goodIn_r _ [13, 14, 15, 16] rfl (by decide +kernel)) ggX1_findTails_X5_length
theorem dX1_findTails_4 : decode cX1_findTails 4 = .ok (.invokevirtual 91, 3) := by decide +kernel
theorem dX1_findTails_7 : decode cX1_findTails 7 = .ok (.sipush 800, 3) := by decide +kernel
theorem dX1_findTails_10 : decode cX1_findTails 10 = .ok (.invokestatic 135, 3) := by decide +kernel
theorem dX1_findTails_13 : decode cX1_findTails 13 = .ok (.istore_n 1, 1) := by decide +kernel
theorem dX1_findTails_14 : decode cX1_findTails 14 = .ok (.aload_n 0, 1) := by decide +kernel
theorem dX1_findTails_15 : decode cX1_findTails 15 = .ok (.getfield 20, 3) := by decide +kernel
theorem dX1_findTails_18 : decode cX1_findTails 18 = .ok (.iload_n 1, 1) := by decide +kernel
theorem dX1_findTails_19 : decode cX1_findTails 19 = .ok (.bipush 32, 2) := by decide +kernel
theorem dX1_findTails_21 : decode cX1_findTails 21 = .ok (.iastore, 1) := by decide +kernel
theorem dX1_findTails_22 : decode cX1_findTails 22 = .ok (.aload_n 0, 1) := by decide +kernel
theorem dX1_findTails_23 : decode cX1_findTails 23 = .ok (.getfield 24, 3) := by decide +kernel
theorem dX1_findTails_26 : decode cX1_findTails 26 = .ok (.iload_n 1, 1) := by decide +kernel
theorem dX1_findTails_27 : decode cX1_findTails 27 = .ok (.iconst 0, 1) := by decide +kernel
theorem dX1_findTails_28 : decode cX1_findTails 28 = .ok (.iastore, 1) := by decide +kernel
theorem dX1_findTails_29 : decode cX1_findTails 29 = .ok (.aload_n 0, 1) := by decide +kernel
theorem dX1_findTails_30 : decode cX1_findTails 30 = .ok (.getfield 27, 3) := by decide +kernel
theorem dX1_findTails_33 : decode cX1_findTails 33 = .ok (.iload_n 1, 1) := by decide +kernel
theorem dX1_findTails_34 : decode cX1_findTails 34 = .ok (.iconst 0, 1) := by decide +kernel
theorem dX1_findTails_35 : decode cX1_findTails 35 = .ok (.iastore, 1) := by decide +kernel
theorem dX1_findTails_36 : decode cX1_findTails 36 = .ok (.iload_n 1, 1) := by decide +kernel
theorem dX1_findTails_37 : decode cX1_findTails 37 = .ok (.iconst 1, 1) := by decide +kernel
theorem dX1_findTails_38 : decode cX1_findTails 38 = .ok (.isub, 1) := by decide +kernel
theorem dX1_findTails_39 : decode cX1_findTails 39 = .ok (.istore_n 2, 1) := by decide +kernel
theorem dX1_findTails_40 : decode cX1_findTails 40 = .ok (.iload_n 2, 1) := by decide +kernel
theorem dX1_findTails_41 : decode cX1_findTails 41 = .ok (.aload_n 0, 1) := by decide +kernel
theorem dX1_findTails_42 : decode cX1_findTails 42 = .ok (.getfield 85, 3) := by decide +kernel
theorem dX1_findTails_45 : decode cX1_findTails 45 = .ok (.if_icmp .le 140, 3) := by decide +kernel
theorem dX1_findTails_185 : decode cX1_findTails 185 = .ok (.return_, 1) := by decide +kernel
theorem dX1_findTails_48 : decode cX1_findTails 48 = .ok (.iload_n 2, 1) := by decide +kernel
theorem dX1_findTails_49 : decode cX1_findTails 49 = .ok (.ifCond .lt 136, 3) := by decide +kernel
theorem dX1_findTails_52 : decode cX1_findTails 52 = .ok (.aload_n 0, 1) := by decide +kernel
theorem dX1_findTails_53 : decode cX1_findTails 53 = .ok (.getfield 42, 3) := by decide +kernel
theorem dX1_findTails_56 : decode cX1_findTails 56 = .ok (.aload_n 0, 1) := by decide +kernel
theorem dX1_findTails_57 : decode cX1_findTails 57 = .ok (.getfield 76, 3) := by decide +kernel
theorem dX1_findTails_60 : decode cX1_findTails 60 = .ok (.aload_n 0, 1) := by decide +kernel
theorem dX1_findTails_61 : decode cX1_findTails 61 = .ok (.getfield 16, 3) := by decide +kernel
theorem dX1_findTails_64 : decode cX1_findTails 64 = .ok (.iload_n 2, 1) := by decide +kernel
theorem dX1_findTails_65 : decode cX1_findTails 65 = .ok (.iload_n 1, 1) := by decide +kernel
set_option maxRecDepth 20000 in
theorem ggX1_findTails_X2_decode : GoodIn wsX1_findTails wsX2_decode := goodIn_r _ [23, 24, 25, 26, 16, 27, 18, 28, 29, 30, 31, 22, 32, 33, 34, 35, 36, 37, 38, 39, 40, 41, 42, 43, 44, 45, 46, 47, 48, 49, 50, 51, 52, 53, 54, 55, 56, 57, 58, 59, 60, 61, 62, 111, 112, 113, 114, 115, 116, 117, 118] rfl (by decide +kernel)
set_option maxRecDepth 20000 in
theorem gX1_findTails_X2_decode : GoodIn wsX1_findTails (wsV RX1 140 RX2 yX2_decode wsX2_decode) := goodIn_app (goodIn_r _ [19, 20, 21, 22] rfl (by decide +kernel)) ggX1_findTails_X2_decode
theorem dX1_findTails_66 : decode cX1_findTails 66 = .ok (.invokevirtual 140, 3) := by decide +kernel
theorem dX1_findTails_69 : decode cX1_findTails 69 = .ok (.istore_n 3, 1) := by decide +kernel
theorem dX1_findTails_70 : decode cX1_findTails 70 = .ok (.iload_n 3, 1) := by decide +kernel
theorem dX1_findTails_71 : decode cX1_findTails 71 = .ok (.iconst (-1), 1) := by decide +kernel
theorem dX1_findTails_72 : decode cX1_findTails 72 = .ok (.if_icmp .ne 7, 3) := by decide +kernel
theorem dX1_findTails_79 : decode cX1_findTails 79 = .ok (.iload_n 2, 1) := by decide +kernel
theorem dX1_findTails_80 : decode cX1_findTails 80 = .ok (.iload_n 3, 1) := by decide +kernel
set_option maxRecDepth 20000 in
theorem ggX1_findTails_X2_bytesIn : GoodIn wsX1_findTails wsX2_bytesIn := goodIn_r _ [65] rfl (by decide +kernel)
set_option maxRecDepth 20000 in
theorem gX1_findTails_X2_bytesIn : GoodIn wsX1_findTails (va_wsS RX1 144 yX2_bytesIn wsX2_bytesIn) := goodIn_app (goodIn_r _ [63, 64, 22] rfl (by decide +kernel)) ggX1_findTails_X2_bytesIn
theorem dX1_findTails_81 : decode cX1_findTails 81 = .ok (.invokestatic 144, 3) := by decide +kernel
theorem dX1_findTails_84 : decode cX1_findTails 84 = .ok (.iadd, 1) := by decide +kernel
theorem dX1_findTails_85 : decode cX1_findTails 85 = .ok (.istore 4, 2) := by decide +kernel
theorem dX1_findTails_87 : decode cX1_findTails 87 = .ok (.iload 4, 2) := by decide +kernel
theorem dX1_findTails_89 : decode cX1_findTails 89 = .ok (.iload_n 2, 1) := by decide +kernel
theorem dX1_findTails_90 : decode cX1_findTails 90 = .ok (.if_icmp .le 20, 3) := by decide +kernel
theorem dX1_findTails_93 : decode cX1_findTails 93 = .ok (.iload 4, 2) := by decide +kernel
theorem dX1_findTails_95 : decode cX1_findTails 95 = .ok (.iload_n 1, 1) := by decide +kernel
theorem dX1_findTails_96 : decode cX1_findTails 96 = .ok (.if_icmp .gt 14, 3) := by decide +kernel
theorem dX1_findTails_99 : decode cX1_findTails 99 = .ok (.aload_n 0, 1) := by decide +kernel
theorem dX1_findTails_100 : decode cX1_findTails 100 = .ok (.getfield 27, 3) := by decide +kernel
theorem dX1_findTails_103 : decode cX1_findTails 103 = .ok (.iload 4, 2) := by decide +kernel
theorem dX1_findTails_105 : decode cX1_findTails 105 = .ok (.iaload, 1) := by decide +kernel
theorem dX1_findTails_106 : decode cX1_findTails 106 = .ok (.iconst (-1), 1) := by decide +kernel
theorem dX1_findTails_107 : decode cX1_findTails 107 = .ok (.if_icmp .ne 13, 3) := by decide +kernel
theorem dX1_findTails_120 : decode cX1_findTails 120 = .ok (.aload_n 0, 1) := by decide +kernel
theorem dX1_findTails_121 : decode cX1_findTails 121 = .ok (.getfield 20, 3) := by decide +kernel
theorem dX1_findTails_124 : decode cX1_findTails 124 = .ok (.iload_n 2, 1) := by decide +kernel
theorem dX1_findTails_125 : decode cX1_findTails 125 = .ok (.iload_n 3, 1) := by decide +kernel
set_option maxRecDepth 20000 in
theorem ggX1_findTails_X2_letterIn : GoodIn wsX1_findTails wsX2_letterIn := goodIn_r _ [68] rfl (by decide +kernel)
set_option maxRecDepth 20000 in
theorem gX1_findTails_X2_letterIn : GoodIn wsX1_findTails (va_wsS RX1 147 yX2_letterIn wsX2_letterIn) := goodIn_app (goodIn_r _ [66, 67, 22] rfl (by decide +kernel)) ggX1_findTails_X2_letterIn
theorem dX1_findTails_126 : decode cX1_findTails 126 = .ok (.invokestatic 147, 3) := by decide +kernel
theorem dX1_findTails_129 : decode cX1_findTails 129 = .ok (.iastore, 1) := by decide +kernel
theorem dX1_findTails_130 : decode cX1_findTails 130 = .ok (.aload_n 0, 1) := by decide +kernel
theorem dX1_findTails_131 : decode cX1_findTails 131 = .ok (.getfield 24, 3) := by decide +kernel
theorem dX1_findTails_134 : decode cX1_findTails 134 = .ok (.iload_n 2, 1) := by decide +kernel
theorem dX1_findTails_135 : decode cX1_findTails 135 = .ok (.aload_n 0, 1) := by decide +kernel
theorem dX1_findTails_136 : decode cX1_findTails 136 = .ok (.getfield 24, 3) := by decide +kernel
theorem dX1_findTails_139 : decode cX1_findTails 139 = .ok (.iload 4, 2) := by decide +kernel
theorem dX1_findTails_141 : decode cX1_findTails 141 = .ok (.iaload, 1) := by decide +kernel
theorem dX1_findTails_142 : decode cX1_findTails 142 = .ok (.aload_n 0, 1) := by decide +kernel
theorem dX1_findTails_143 : decode cX1_findTails 143 = .ok (.getfield 46, 3) := by decide +kernel
theorem dX1_findTails_146 : decode cX1_findTails 146 = .ok (.aload_n 0, 1) := by decide +kernel
theorem dX1_findTails_147 : decode cX1_findTails 147 = .ok (.getfield 20, 3) := by decide +kernel
theorem dX1_findTails_150 : decode cX1_findTails 150 = .ok (.iload_n 2, 1) := by decide +kernel
theorem dX1_findTails_151 : decode cX1_findTails 151 = .ok (.iaload, 1) := by decide +kernel
theorem dX1_findTails_152 : decode cX1_findTails 152 = .ok (.aload_n 0, 1) := by decide +kernel
theorem dX1_findTails_153 : decode cX1_findTails 153 = .ok (.getfield 20, 3) := by decide +kernel
theorem dX1_findTails_156 : decode cX1_findTails 156 = .ok (.iload 4, 2) := by decide +kernel
theorem dX1_findTails_158 : decode cX1_findTails 158 = .ok (.iaload, 1) := by decide +kernel
set_option maxRecDepth 20000 in
theorem ggX1_findTails_X3_of : GoodIn wsX1_findTails wsX3_of := goodIn_r _ [73, 74, 75, 76, 77, 78, 72, 79, 80, 81, 82, 83, 84, 85, 86, 87, 88, 89, 90, 119, 120, 121] rfl (by decide +kernel)
set_option maxRecDepth 20000 in
theorem gX1_findTails_X3_of : GoodIn wsX1_findTails (wsV RX1 150 RX3 yX3_of wsX3_of) := goodIn_app (goodIn_r _ [69, 70, 71, 72] rfl (by decide +kernel)) ggX1_findTails_X3_of
theorem dX1_findTails_159 : decode cX1_findTails 159 = .ok (.invokevirtual 150, 3) := by decide +kernel
theorem dX1_findTails_162 : decode cX1_findTails 162 = .ok (.iadd, 1) := by decide +kernel
theorem dX1_findTails_163 : decode cX1_findTails 163 = .ok (.iastore, 1) := by decide +kernel
theorem dX1_findTails_164 : decode cX1_findTails 164 = .ok (.aload_n 0, 1) := by decide +kernel
theorem dX1_findTails_165 : decode cX1_findTails 165 = .ok (.getfield 27, 3) := by decide +kernel
theorem dX1_findTails_168 : decode cX1_findTails 168 = .ok (.iload_n 2, 1) := by decide +kernel
theorem dX1_findTails_169 : decode cX1_findTails 169 = .ok (.aload_n 0, 1) := by decide +kernel
theorem dX1_findTails_170 : decode cX1_findTails 170 = .ok (.getfield 27, 3) := by decide +kernel
theorem dX1_findTails_173 : decode cX1_findTails 173 = .ok (.iload 4, 2) := by decide +kernel
theorem dX1_findTails_175 : decode cX1_findTails 175 = .ok (.iaload, 1) := by decide +kernel
theorem dX1_findTails_176 : decode cX1_findTails 176 = .ok (.iconst 1, 1) := by decide +kernel
theorem dX1_findTails_177 : decode cX1_findTails 177 = .ok (.iadd, 1) := by decide +kernel
theorem dX1_findTails_178 : decode cX1_findTails 178 = .ok (.iastore, 1) := by decide +kernel
theorem dX1_findTails_179 : decode cX1_findTails 179 = .ok (.iinc 2 (-1), 3) := by decide +kernel
theorem dX1_findTails_182 : decode cX1_findTails 182 = .ok (.goto (-142), 3) := by decide +kernel
theorem dX1_findTails_110 : decode cX1_findTails 110 = .ok (.aload_n 0, 1) := by decide +kernel
theorem dX1_findTails_111 : decode cX1_findTails 111 = .ok (.getfield 27, 3) := by decide +kernel
theorem dX1_findTails_114 : decode cX1_findTails 114 = .ok (.iload_n 2, 1) := by decide +kernel
theorem dX1_findTails_115 : decode cX1_findTails 115 = .ok (.iconst (-1), 1) := by decide +kernel
theorem dX1_findTails_116 : decode cX1_findTails 116 = .ok (.iastore, 1) := by decide +kernel
theorem dX1_findTails_117 : decode cX1_findTails 117 = .ok (.goto 62, 3) := by decide +kernel
theorem dX1_findTails_75 : decode cX1_findTails 75 = .ok (.iconst (-1), 1) := by decide +kernel
theorem dX1_findTails_76 : decode cX1_findTails 76 = .ok (.goto 9, 3) := by decide +kernel
theorem dX1_comesBack_0 : decode cX1_comesBack 0 = .ok (.aload_n 0, 1) := by decide +kernel
theorem dX1_comesBack_1 : decode cX1_comesBack 1 = .ok (.getfield 16, 3) := by decide +kernel
set_option maxRecDepth 20000 in
theorem ggX1_comesBack_X5_length : GoodIn wsX1_comesBack wsX5_length := goodIn_r _ [10, 11, 76, 77] rfl (by decide +kernel)
set_option maxRecDepth 20000 in
theorem gX1_comesBack_X5_length : GoodIn wsX1_comesBack (wsV RX1 91 RX5 yX5_length wsX5_length) := goodIn_app (goodIn_r _ [6, 7, 8, 9] rfl (by decide +kernel)) ggX1_comesBack_X5_length
theorem dX1_comesBack_4 : decode cX1_comesBack 4 = .ok (.invokevirtual 91, 3) := by decide +kernel
theorem dX1_comesBack_7 : decode cX1_comesBack 7 = .ok (.istore_n 1, 1) := by decide +kernel
theorem dX1_comesBack_8 : decode cX1_comesBack 8 = .ok (.aload_n 0, 1) := by decide +kernel
theorem dX1_comesBack_9 : decode cX1_comesBack 9 = .ok (.getfield 42, 3) := by decide +kernel
theorem dX1_comesBack_12 : decode cX1_comesBack 12 = .ok (.aload_n 0, 1) := by decide +kernel
theorem dX1_comesBack_13 : decode cX1_comesBack 13 = .ok (.getfield 79, 3) := by decide +kernel
theorem dX1_comesBack_16 : decode cX1_comesBack 16 = .ok (.aload_n 0, 1) := by decide +kernel
theorem dX1_comesBack_17 : decode cX1_comesBack 17 = .ok (.getfield 16, 3) := by decide +kernel
theorem dX1_comesBack_20 : decode cX1_comesBack 20 = .ok (.aload_n 0, 1) := by decide +kernel
theorem dX1_comesBack_21 : decode cX1_comesBack 21 = .ok (.getfield 85, 3) := by decide +kernel
theorem dX1_comesBack_24 : decode cX1_comesBack 24 = .ok (.iload_n 1, 1) := by decide +kernel
set_option maxRecDepth 20000 in
theorem ggX1_comesBack_X2_decode : GoodIn wsX1_comesBack wsX2_decode := goodIn_r _ [16, 17, 18, 19, 9, 20, 11, 21, 22, 23, 24, 15, 25, 26, 27, 28, 29, 30, 31, 32, 33, 34, 35, 36, 37, 38, 39, 40, 41, 42, 43, 44, 45, 46, 47, 48, 49, 50, 51, 52, 53, 54, 55, 76, 77, 78, 79, 80, 81, 82, 83] rfl (by decide +kernel)
set_option maxRecDepth 20000 in
theorem gX1_comesBack_X2_decode : GoodIn wsX1_comesBack (wsV RX1 140 RX2 yX2_decode wsX2_decode) := goodIn_app (goodIn_r _ [12, 13, 14, 15] rfl (by decide +kernel)) ggX1_comesBack_X2_decode
theorem dX1_comesBack_25 : decode cX1_comesBack 25 = .ok (.invokevirtual 140, 3) := by decide +kernel
theorem dX1_comesBack_28 : decode cX1_comesBack 28 = .ok (.iconst (-1), 1) := by decide +kernel
theorem dX1_comesBack_29 : decode cX1_comesBack 29 = .ok (.if_icmp .ne 39, 3) := by decide +kernel
theorem dX1_comesBack_68 : decode cX1_comesBack 68 = .ok (.iconst 0, 1) := by decide +kernel
theorem dX1_comesBack_69 : decode cX1_comesBack 69 = .ok (.ireturn, 1) := by decide +kernel
theorem dX1_comesBack_32 : decode cX1_comesBack 32 = .ok (.aload_n 0, 1) := by decide +kernel
theorem dX1_comesBack_33 : decode cX1_comesBack 33 = .ok (.getfield 82, 3) := by decide +kernel
theorem dX1_comesBack_36 : decode cX1_comesBack 36 = .ok (.iconst (-1), 1) := by decide +kernel
theorem dX1_comesBack_37 : decode cX1_comesBack 37 = .ok (.if_icmp .eq 27, 3) := by decide +kernel
theorem dX1_comesBack_64 : decode cX1_comesBack 64 = .ok (.iconst 1, 1) := by decide +kernel
theorem dX1_comesBack_65 : decode cX1_comesBack 65 = .ok (.goto 4, 3) := by decide +kernel
theorem dX1_comesBack_40 : decode cX1_comesBack 40 = .ok (.aload_n 0, 1) := by decide +kernel
theorem dX1_comesBack_41 : decode cX1_comesBack 41 = .ok (.getfield 42, 3) := by decide +kernel
theorem dX1_comesBack_44 : decode cX1_comesBack 44 = .ok (.aload_n 0, 1) := by decide +kernel
theorem dX1_comesBack_45 : decode cX1_comesBack 45 = .ok (.getfield 79, 3) := by decide +kernel
theorem dX1_comesBack_48 : decode cX1_comesBack 48 = .ok (.aload_n 0, 1) := by decide +kernel
theorem dX1_comesBack_49 : decode cX1_comesBack 49 = .ok (.getfield 16, 3) := by decide +kernel
theorem dX1_comesBack_52 : decode cX1_comesBack 52 = .ok (.aload_n 0, 1) := by decide +kernel
theorem dX1_comesBack_53 : decode cX1_comesBack 53 = .ok (.getfield 82, 3) := by decide +kernel
theorem dX1_comesBack_56 : decode cX1_comesBack 56 = .ok (.iload_n 1, 1) := by decide +kernel
theorem dX1_comesBack_57 : decode cX1_comesBack 57 = .ok (.invokevirtual 140, 3) := by decide +kernel
theorem dX1_comesBack_60 : decode cX1_comesBack 60 = .ok (.iconst (-1), 1) := by decide +kernel
theorem dX1_comesBack_61 : decode cX1_comesBack 61 = .ok (.if_icmp .ne 7, 3) := by decide +kernel
