set_option maxRecDepth 20000 in
theorem ggX1_init_X5_init : GoodIn wsX1_init wsX5_init := goodIn_r _ [33, 34, 2, 3, 35, 36, 37, 38, 8, 39, 40, 51, 52] (by decide +kernel) (by decide +kernel)
set_option maxRecDepth 20000 in
theorem gX1_init_X5_init : GoodIn wsX1_init (wsX5_init) := ggX1_init_X5_init
set_option maxRecDepth 20000 in
theorem ggX1_init_X8_init : GoodIn wsX1_init wsX8_init := goodIn_r _ [43, 44, 2, 3, 45, 46, 47, 48, 49, 50, 73, 74, 75, 76, 77, 78] (by decide +kernel) (by decide +kernel)
set_option maxRecDepth 20000 in
theorem gX1_init_X8_init : GoodIn wsX1_init (wsX8_init) := ggX1_init_X8_init
theorem dX1_init_0 : decode cX1_init 0 = .ok (.aload_n 0, 1) := by decide +kernel
theorem dX1_init_1 : decode cX1_init 1 = .ok (.invokespecial 3, 3) := by decide +kernel
theorem dX1_init_4 : decode cX1_init 4 = .ok (.aload_n 0, 1) := by decide +kernel
theorem dX1_init_5 : decode cX1_init 5 = .ok (.new 9, 3) := by decide +kernel
theorem dX1_init_8 : decode cX1_init 8 = .ok (.dup, 1) := by decide +kernel
theorem dX1_init_9 : decode cX1_init 9 = .ok (.sipush 800, 3) := by decide +kernel
theorem dX1_init_12 : decode cX1_init 12 = .ok (.invokespecial 13, 3) := by decide +kernel
theorem dX1_init_15 : decode cX1_init 15 = .ok (.putfield 16, 3) := by decide +kernel
theorem dX1_init_18 : decode cX1_init 18 = .ok (.aload_n 0, 1) := by decide +kernel
theorem dX1_init_19 : decode cX1_init 19 = .ok (.sipush 801, 3) := by decide +kernel
theorem dX1_init_22 : decode cX1_init 22 = .ok (.newarray .int, 2) := by decide +kernel
theorem dX1_init_24 : decode cX1_init 24 = .ok (.putfield 20, 3) := by decide +kernel
theorem dX1_init_27 : decode cX1_init 27 = .ok (.aload_n 0, 1) := by decide +kernel
theorem dX1_init_28 : decode cX1_init 28 = .ok (.sipush 801, 3) := by decide +kernel
theorem dX1_init_31 : decode cX1_init 31 = .ok (.newarray .int, 2) := by decide +kernel
theorem dX1_init_33 : decode cX1_init 33 = .ok (.putfield 24, 3) := by decide +kernel
theorem dX1_init_36 : decode cX1_init 36 = .ok (.aload_n 0, 1) := by decide +kernel
theorem dX1_init_37 : decode cX1_init 37 = .ok (.sipush 801, 3) := by decide +kernel
theorem dX1_init_40 : decode cX1_init 40 = .ok (.newarray .int, 2) := by decide +kernel
theorem dX1_init_42 : decode cX1_init 42 = .ok (.putfield 27, 3) := by decide +kernel
theorem dX1_init_45 : decode cX1_init 45 = .ok (.aload_n 0, 1) := by decide +kernel
theorem dX1_init_46 : decode cX1_init 46 = .ok (.sipush 200, 3) := by decide +kernel
theorem dX1_init_49 : decode cX1_init 49 = .ok (.newarray .int, 2) := by decide +kernel
theorem dX1_init_51 : decode cX1_init 51 = .ok (.putfield 30, 3) := by decide +kernel
theorem dX1_init_54 : decode cX1_init 54 = .ok (.aload_n 0, 1) := by decide +kernel
theorem dX1_init_55 : decode cX1_init 55 = .ok (.sipush 200, 3) := by decide +kernel
theorem dX1_init_58 : decode cX1_init 58 = .ok (.newarray .int, 2) := by decide +kernel
theorem dX1_init_60 : decode cX1_init 60 = .ok (.putfield 33, 3) := by decide +kernel
theorem dX1_init_63 : decode cX1_init 63 = .ok (.aload_n 0, 1) := by decide +kernel
theorem dX1_init_64 : decode cX1_init 64 = .ok (.sipush 200, 3) := by decide +kernel
theorem dX1_init_67 : decode cX1_init 67 = .ok (.newarray .int, 2) := by decide +kernel
theorem dX1_init_69 : decode cX1_init 69 = .ok (.putfield 36, 3) := by decide +kernel
theorem dX1_init_72 : decode cX1_init 72 = .ok (.aload_n 0, 1) := by decide +kernel
theorem dX1_init_73 : decode cX1_init 73 = .ok (.sipush 200, 3) := by decide +kernel
theorem dX1_init_76 : decode cX1_init 76 = .ok (.newarray .int, 2) := by decide +kernel
theorem dX1_init_78 : decode cX1_init 78 = .ok (.putfield 39, 3) := by decide +kernel
theorem dX1_init_81 : decode cX1_init 81 = .ok (.aload_n 0, 1) := by decide +kernel
theorem dX1_init_82 : decode cX1_init 82 = .ok (.aload_n 1, 1) := by decide +kernel
theorem dX1_init_83 : decode cX1_init 83 = .ok (.putfield 42, 3) := by decide +kernel
theorem dX1_init_86 : decode cX1_init 86 = .ok (.aload_n 0, 1) := by decide +kernel
theorem dX1_init_87 : decode cX1_init 87 = .ok (.aload_n 2, 1) := by decide +kernel
theorem dX1_init_88 : decode cX1_init 88 = .ok (.putfield 46, 3) := by decide +kernel
theorem dX1_init_91 : decode cX1_init 91 = .ok (.aload_n 0, 1) := by decide +kernel
theorem dX1_init_92 : decode cX1_init 92 = .ok (.new 50, 3) := by decide +kernel
theorem dX1_init_95 : decode cX1_init 95 = .ok (.dup, 1) := by decide +kernel
theorem dX1_init_96 : decode cX1_init 96 = .ok (.aload_n 1, 1) := by decide +kernel
theorem dX1_init_97 : decode cX1_init 97 = .ok (.aload_n 2, 1) := by decide +kernel
theorem dX1_init_98 : decode cX1_init 98 = .ok (.invokespecial 52, 3) := by decide +kernel
theorem dX1_init_101 : decode cX1_init 101 = .ok (.putfield 55, 3) := by decide +kernel
theorem dX1_init_104 : decode cX1_init 104 = .ok (.aload_n 0, 1) := by decide +kernel
theorem dX1_init_105 : decode cX1_init 105 = .ok (.new 50, 3) := by decide +kernel
theorem dX1_init_108 : decode cX1_init 108 = .ok (.dup, 1) := by decide +kernel
theorem dX1_init_109 : decode cX1_init 109 = .ok (.aload_n 1, 1) := by decide +kernel
theorem dX1_init_110 : decode cX1_init 110 = .ok (.aload_n 2, 1) := by decide +kernel
theorem dX1_init_111 : decode cX1_init 111 = .ok (.invokespecial 52, 3) := by decide +kernel
theorem dX1_init_114 : decode cX1_init 114 = .ok (.putfield 59, 3) := by decide +kernel
theorem dX1_init_117 : decode cX1_init 117 = .ok (.aload_n 0, 1) := by decide +kernel
theorem dX1_init_118 : decode cX1_init 118 = .ok (.new 50, 3) := by decide +kernel
theorem dX1_init_121 : decode cX1_init 121 = .ok (.dup, 1) := by decide +kernel
theorem dX1_init_122 : decode cX1_init 122 = .ok (.aload_n 1, 1) := by decide +kernel
theorem dX1_init_123 : decode cX1_init 123 = .ok (.aload_n 2, 1) := by decide +kernel
theorem dX1_init_124 : decode cX1_init 124 = .ok (.invokespecial 52, 3) := by decide +kernel
theorem dX1_init_127 : decode cX1_init 127 = .ok (.putfield 62, 3) := by decide +kernel
theorem dX1_init_130 : decode cX1_init 130 = .ok (.aload_n 0, 1) := by decide +kernel
theorem dX1_init_131 : decode cX1_init 131 = .ok (.iconst 0, 1) := by decide +kernel
theorem dX1_init_132 : decode cX1_init 132 = .ok (.putfield 65, 3) := by decide +kernel
theorem dX1_init_135 : decode cX1_init 135 = .ok (.aload_n 0, 1) := by decide +kernel
theorem dX1_init_136 : decode cX1_init 136 = .ok (.iconst 0, 1) := by decide +kernel
theorem dX1_init_137 : decode cX1_init 137 = .ok (.putfield 69, 3) := by decide +kernel
theorem dX1_init_140 : decode cX1_init 140 = .ok (.aload_n 0, 1) := by decide +kernel
theorem dX1_init_141 : decode cX1_init 141 = .ok (.iconst 0, 1) := by decide +kernel
theorem dX1_init_142 : decode cX1_init 142 = .ok (.putfield 72, 3) := by decide +kernel
theorem dX1_init_145 : decode cX1_init 145 = .ok (.aload_n 0, 1) := by decide +kernel
theorem dX1_init_146 : decode cX1_init 146 = .ok (.iconst (-1), 1) := by decide +kernel
theorem dX1_init_147 : decode cX1_init 147 = .ok (.putfield 76, 3) := by decide +kernel
theorem dX1_init_150 : decode cX1_init 150 = .ok (.aload_n 0, 1) := by decide +kernel
theorem dX1_init_151 : decode cX1_init 151 = .ok (.iconst (-1), 1) := by decide +kernel
theorem dX1_init_152 : decode cX1_init 152 = .ok (.putfield 79, 3) := by decide +kernel
theorem dX1_init_155 : decode cX1_init 155 = .ok (.aload_n 0, 1) := by decide +kernel
theorem dX1_init_156 : decode cX1_init 156 = .ok (.iconst (-1), 1) := by decide +kernel
theorem dX1_init_157 : decode cX1_init 157 = .ok (.putfield 82, 3) := by decide +kernel
theorem dX1_init_160 : decode cX1_init 160 = .ok (.aload_n 0, 1) := by decide +kernel
theorem dX1_init_161 : decode cX1_init 161 = .ok (.iconst (-1), 1) := by decide +kernel
theorem dX1_init_162 : decode cX1_init 162 = .ok (.putfield 85, 3) := by decide +kernel
theorem dX1_init_165 : decode cX1_init 165 = .ok (.return_, 1) := by decide +kernel
theorem dX1_forgetFreshness_0 : decode cX1_forgetFreshness 0 = .ok (.aload_n 0, 1) := by decide +kernel
theorem dX1_forgetFreshness_1 : decode cX1_forgetFreshness 1 = .ok (.iconst 0, 1) := by decide +kernel
theorem dX1_forgetFreshness_2 : decode cX1_forgetFreshness 2 = .ok (.putfield 72, 3) := by decide +kernel
theorem dX1_forgetFreshness_5 : decode cX1_forgetFreshness 5 = .ok (.return_, 1) := by decide +kernel
theorem dX1_isFresh_0 : decode cX1_isFresh 0 = .ok (.aload_n 0, 1) := by decide +kernel
theorem dX1_isFresh_1 : decode cX1_isFresh 1 = .ok (.getfield 72, 3) := by decide +kernel
theorem dX1_isFresh_4 : decode cX1_isFresh 4 = .ok (.ifCond .eq 19, 3) := by decide +kernel
theorem dX1_isFresh_7 : decode cX1_isFresh 7 = .ok (.iload_n 1, 1) := by decide +kernel
theorem dX1_isFresh_8 : decode cX1_isFresh 8 = .ok (.ifCond .lt 15, 3) := by decide +kernel
theorem dX1_isFresh_11 : decode cX1_isFresh 11 = .ok (.iload_n 1, 1) := by decide +kernel
theorem dX1_isFresh_12 : decode cX1_isFresh 12 = .ok (.aload_n 0, 1) := by decide +kernel
theorem dX1_isFresh_13 : decode cX1_isFresh 13 = .ok (.getfield 65, 3) := by decide +kernel
theorem dX1_isFresh_16 : decode cX1_isFresh 16 = .ok (.if_icmp .ge 7, 3) := by decide +kernel
theorem dX1_isFresh_19 : decode cX1_isFresh 19 = .ok (.iconst 1, 1) := by decide +kernel
theorem dX1_isFresh_20 : decode cX1_isFresh 20 = .ok (.goto 4, 3) := by decide +kernel
theorem dX1_isFresh_23 : decode cX1_isFresh 23 = .ok (.iconst 0, 1) := by decide +kernel
theorem dX1_isFresh_24 : decode cX1_isFresh 24 = .ok (.ireturn, 1) := by decide +kernel
theorem dX1_told_0 : decode cX1_told 0 = .ok (.iload_n 1, 1) := by decide +kernel
theorem dX1_told_1 : decode cX1_told 1 = .ok (.ifCond .lt 11, 3) := by decide +kernel
theorem dX1_told_4 : decode cX1_told 4 = .ok (.iload_n 1, 1) := by decide +kernel
theorem dX1_told_5 : decode cX1_told 5 = .ok (.aload_n 0, 1) := by decide +kernel
theorem dX1_told_6 : decode cX1_told 6 = .ok (.getfield 65, 3) := by decide +kernel
theorem dX1_told_9 : decode cX1_told 9 = .ok (.if_icmp .lt 5, 3) := by decide +kernel
theorem dX1_told_12 : decode cX1_told 12 = .ok (.iconst (-1), 1) := by decide +kernel
theorem dX1_told_13 : decode cX1_told 13 = .ok (.ireturn, 1) := by decide +kernel
theorem dX1_told_14 : decode cX1_told 14 = .ok (.iload_n 2, 1) := by decide +kernel
theorem dX1_told_15 : decode cX1_told 15 = .ok (.tableswitch 57 0 3 #[29, 36, 43, 50], 29) := by decide +kernel
theorem dX1_told_44 : decode cX1_told 44 = .ok (.aload_n 0, 1) := by decide +kernel
theorem dX1_told_45 : decode cX1_told 45 = .ok (.getfield 30, 3) := by decide +kernel
theorem dX1_told_48 : decode cX1_told 48 = .ok (.iload_n 1, 1) := by decide +kernel
theorem dX1_told_49 : decode cX1_told 49 = .ok (.iaload, 1) := by decide +kernel
theorem dX1_told_50 : decode cX1_told 50 = .ok (.ireturn, 1) := by decide +kernel
theorem dX1_told_51 : decode cX1_told 51 = .ok (.aload_n 0, 1) := by decide +kernel
theorem dX1_told_52 : decode cX1_told 52 = .ok (.getfield 33, 3) := by decide +kernel
theorem dX1_told_55 : decode cX1_told 55 = .ok (.iload_n 1, 1) := by decide +kernel
theorem dX1_told_56 : decode cX1_told 56 = .ok (.iaload, 1) := by decide +kernel
theorem dX1_told_57 : decode cX1_told 57 = .ok (.ireturn, 1) := by decide +kernel
theorem dX1_told_58 : decode cX1_told 58 = .ok (.aload_n 0, 1) := by decide +kernel
theorem dX1_told_59 : decode cX1_told 59 = .ok (.getfield 36, 3) := by decide +kernel
theorem dX1_told_62 : decode cX1_told 62 = .ok (.iload_n 1, 1) := by decide +kernel
theorem dX1_told_63 : decode cX1_told 63 = .ok (.iaload, 1) := by decide +kernel
theorem dX1_told_64 : decode cX1_told 64 = .ok (.ireturn, 1) := by decide +kernel
theorem dX1_told_65 : decode cX1_told 65 = .ok (.aload_n 0, 1) := by decide +kernel
theorem dX1_told_66 : decode cX1_told 66 = .ok (.getfield 39, 3) := by decide +kernel
theorem dX1_told_69 : decode cX1_told 69 = .ok (.iload_n 1, 1) := by decide +kernel
theorem dX1_told_70 : decode cX1_told 70 = .ok (.iaload, 1) := by decide +kernel
theorem dX1_told_71 : decode cX1_told 71 = .ok (.ireturn, 1) := by decide +kernel
theorem dX1_told_72 : decode cX1_told 72 = .ok (.iconst (-1), 1) := by decide +kernel
theorem dX1_told_73 : decode cX1_told 73 = .ok (.ireturn, 1) := by decide +kernel
set_option maxRecDepth 20000 in
theorem ggX1_layOut_X5_cut : GoodIn wsX1_layOut wsX5_cut := goodIn_r _ [10, 11, 78, 79] (by decide +kernel) (by decide +kernel)
set_option maxRecDepth 20000 in
theorem gX1_layOut_X5_cut : GoodIn wsX1_layOut (wsV RX1 88 RX5 yX5_cut wsX5_cut) := goodIn_app (goodIn_of _ (by decide +kernel)) ggX1_layOut_X5_cut
set_option maxRecDepth 20000 in
theorem ggX1_layOut_X5_length : GoodIn wsX1_layOut wsX5_length := goodIn_r _ [15, 11, 78, 79] (by decide +kernel) (by decide +kernel)
set_option maxRecDepth 20000 in
theorem gX1_layOut_X5_length : GoodIn wsX1_layOut (wsV RX1 91 RX5 yX5_length wsX5_length) := goodIn_app (goodIn_of _ (by decide +kernel)) ggX1_layOut_X5_length
set_option maxRecDepth 20000 in
theorem ggX1_layOut_X5_get : GoodIn wsX1_layOut wsX5_get := goodIn_r _ [19, 11, 20, 78, 79] (by decide +kernel) (by decide +kernel)
set_option maxRecDepth 20000 in
theorem gX1_layOut_X5_get : GoodIn wsX1_layOut (wsV RX1 95 RX5 yX5_get wsX5_get) := goodIn_app (goodIn_of _ (by decide +kernel)) ggX1_layOut_X5_get
set_option maxRecDepth 20000 in
theorem ggX1_layOut_X5_add : GoodIn wsX1_layOut wsX5_add := goodIn_r _ [24, 11, 20, 78, 79] (by decide +kernel) (by decide +kernel)
set_option maxRecDepth 20000 in
theorem gX1_layOut_X5_add : GoodIn wsX1_layOut (wsV RX1 100 RX5 yX5_add wsX5_add) := goodIn_app (goodIn_of _ (by decide +kernel)) ggX1_layOut_X5_add
set_option maxRecDepth 20000 in
theorem ggX1_layOut_X2_encode : GoodIn wsX1_layOut wsX2_encode := goodIn_r _ [29, 30, 22, 23, 9, 24, 11, 20, 31, 32, 28, 33, 34, 35, 36, 37, 38, 39, 40, 41, 42, 43, 44, 45, 46, 47, 48, 49, 50, 51, 52, 53, 54, 55, 56, 57, 78, 79, 80, 81, 82, 83, 84, 85] (by decide +kernel) (by decide +kernel)
set_option maxRecDepth 20000 in
theorem gX1_layOut_X2_encode : GoodIn wsX1_layOut (wsV RX1 104 RX2 yX2_encode wsX2_encode) := goodIn_app (goodIn_of _ (by decide +kernel)) ggX1_layOut_X2_encode
theorem dX1_layOut_0 : decode cX1_layOut 0 = .ok (.aload_n 0, 1) := by decide +kernel
theorem dX1_layOut_1 : decode cX1_layOut 1 = .ok (.getfield 16, 3) := by decide +kernel
theorem dX1_layOut_4 : decode cX1_layOut 4 = .ok (.iconst 0, 1) := by decide +kernel
theorem dX1_layOut_5 : decode cX1_layOut 5 = .ok (.invokevirtual 88, 3) := by decide +kernel
theorem dX1_layOut_8 : decode cX1_layOut 8 = .ok (.aload_n 0, 1) := by decide +kernel
theorem dX1_layOut_9 : decode cX1_layOut 9 = .ok (.iconst (-1), 1) := by decide +kernel
theorem dX1_layOut_10 : decode cX1_layOut 10 = .ok (.putfield 82, 3) := by decide +kernel
theorem dX1_layOut_13 : decode cX1_layOut 13 = .ok (.aload_n 0, 1) := by decide +kernel
theorem dX1_layOut_14 : decode cX1_layOut 14 = .ok (.iconst (-1), 1) := by decide +kernel
theorem dX1_layOut_15 : decode cX1_layOut 15 = .ok (.putfield 85, 3) := by decide +kernel
theorem dX1_layOut_18 : decode cX1_layOut 18 = .ok (.iconst 0, 1) := by decide +kernel
theorem dX1_layOut_19 : decode cX1_layOut 19 = .ok (.istore_n 3, 1) := by decide +kernel
theorem dX1_layOut_20 : decode cX1_layOut 20 = .ok (.iload_n 3, 1) := by decide +kernel
theorem dX1_layOut_21 : decode cX1_layOut 21 = .ok (.aload_n 2, 1) := by decide +kernel
theorem dX1_layOut_22 : decode cX1_layOut 22 = .ok (.invokevirtual 91, 3) := by decide +kernel
theorem dX1_layOut_25 : decode cX1_layOut 25 = .ok (.if_icmp .ge 72, 3) := by decide +kernel
theorem dX1_layOut_28 : decode cX1_layOut 28 = .ok (.aload_n 2, 1) := by decide +kernel
theorem dX1_layOut_29 : decode cX1_layOut 29 = .ok (.iload_n 3, 1) := by decide +kernel
theorem dX1_layOut_30 : decode cX1_layOut 30 = .ok (.invokevirtual 95, 3) := by decide +kernel
theorem dX1_layOut_33 : decode cX1_layOut 33 = .ok (.ldc 99, 2) := by decide +kernel
theorem dX1_layOut_35 : decode cX1_layOut 35 = .ok (.if_icmp .ne 34, 3) := by decide +kernel
theorem dX1_layOut_38 : decode cX1_layOut 38 = .ok (.aload_n 0, 1) := by decide +kernel
theorem dX1_layOut_39 : decode cX1_layOut 39 = .ok (.aload_n 0, 1) := by decide +kernel
theorem dX1_layOut_40 : decode cX1_layOut 40 = .ok (.getfield 85, 3) := by decide +kernel
theorem dX1_layOut_43 : decode cX1_layOut 43 = .ok (.putfield 82, 3) := by decide +kernel
theorem dX1_layOut_46 : decode cX1_layOut 46 = .ok (.aload_n 0, 1) := by decide +kernel
theorem dX1_layOut_47 : decode cX1_layOut 47 = .ok (.aload_n 0, 1) := by decide +kernel
theorem dX1_layOut_48 : decode cX1_layOut 48 = .ok (.getfield 16, 3) := by decide +kernel
theorem dX1_layOut_51 : decode cX1_layOut 51 = .ok (.invokevirtual 91, 3) := by decide +kernel
theorem dX1_layOut_54 : decode cX1_layOut 54 = .ok (.putfield 85, 3) := by decide +kernel
theorem dX1_layOut_57 : decode cX1_layOut 57 = .ok (.aload_n 0, 1) := by decide +kernel
theorem dX1_layOut_58 : decode cX1_layOut 58 = .ok (.getfield 16, 3) := by decide +kernel
theorem dX1_layOut_61 : decode cX1_layOut 61 = .ok (.iconst 0, 1) := by decide +kernel
theorem dX1_layOut_62 : decode cX1_layOut 62 = .ok (.invokevirtual 100, 3) := by decide +kernel
theorem dX1_layOut_65 : decode cX1_layOut 65 = .ok (.pop, 1) := by decide +kernel
theorem dX1_layOut_66 : decode cX1_layOut 66 = .ok (.goto 25, 3) := by decide +kernel
theorem dX1_layOut_69 : decode cX1_layOut 69 = .ok (.aload_n 0, 1) := by decide +kernel
theorem dX1_layOut_70 : decode cX1_layOut 70 = .ok (.getfield 42, 3) := by decide +kernel
theorem dX1_layOut_73 : decode cX1_layOut 73 = .ok (.iload_n 1, 1) := by decide +kernel
theorem dX1_layOut_74 : decode cX1_layOut 74 = .ok (.aload_n 2, 1) := by decide +kernel
theorem dX1_layOut_75 : decode cX1_layOut 75 = .ok (.iload_n 3, 1) := by decide +kernel
theorem dX1_layOut_76 : decode cX1_layOut 76 = .ok (.invokevirtual 95, 3) := by decide +kernel
theorem dX1_layOut_79 : decode cX1_layOut 79 = .ok (.aload_n 0, 1) := by decide +kernel
theorem dX1_layOut_80 : decode cX1_layOut 80 = .ok (.getfield 16, 3) := by decide +kernel
theorem dX1_layOut_83 : decode cX1_layOut 83 = .ok (.invokevirtual 104, 3) := by decide +kernel
theorem dX1_layOut_86 : decode cX1_layOut 86 = .ok (.ifCond .ne 5, 3) := by decide +kernel
theorem dX1_layOut_89 : decode cX1_layOut 89 = .ok (.iload_n 3, 1) := by decide +kernel
theorem dX1_layOut_90 : decode cX1_layOut 90 = .ok (.ireturn, 1) := by decide +kernel
theorem dX1_layOut_91 : decode cX1_layOut 91 = .ok (.iinc 3 1, 3) := by decide +kernel
theorem dX1_layOut_94 : decode cX1_layOut 94 = .ok (.goto (-74), 3) := by decide +kernel
theorem dX1_layOut_97 : decode cX1_layOut 97 = .ok (.iconst (-1), 1) := by decide +kernel
theorem dX1_layOut_98 : decode cX1_layOut 98 = .ok (.ireturn, 1) := by decide +kernel
set_option maxRecDepth 20000 in
theorem ggX1_find_X1_findTails : GoodIn wsX1_find wsX1_findTails := goodIn_r _ [16, 7, 17, 18, 19, 20, 21, 22, 23, 8, 10, 1, 24, 25, 26, 27, 28, 29, 30, 31, 32, 33, 34, 35, 36, 37, 38, 39, 40, 41, 42, 43, 44, 45, 46, 47, 48, 49, 50, 51, 52, 53, 54, 55, 56, 57, 58, 59, 60, 61, 62, 63, 64, 65, 66, 67, 68, 69, 70, 71, 72, 73, 74, 75, 76, 77, 78, 79, 80, 81, 82, 83, 84, 85, 86, 87, 88, 89, 90, 91, 92, 93, 94, 95, 96, 97, 98, 99, 100, 101, 102, 172, 173, 174, 175, 176, 177, 178, 179, 180, 181, 182, 183, 184, 185, 186, 187, 188, 189, 190, 191, 192, 193, 194, 195, 196, 197, 198, 199, 200, 201, 202] (by decide +kernel) (by decide +kernel)
set_option maxRecDepth 20000 in
theorem gX1_find_X1_findTails : GoodIn wsX1_find (wsV RX1 110 RX1 yX1_findTails wsX1_findTails) := goodIn_app (goodIn_of _ (by decide +kernel)) ggX1_find_X1_findTails
set_option maxRecDepth 20000 in
theorem ggX1_find_X8_begin : GoodIn wsX1_find wsX8_begin := goodIn_r _ [107, 108, 109, 110, 111, 203, 204, 205, 206, 207, 208] (by decide +kernel) (by decide +kernel)
set_option maxRecDepth 20000 in
theorem gX1_find_X8_begin : GoodIn wsX1_find (wsV RX1 113 RX8 yX8_begin wsX8_begin) := goodIn_app (goodIn_of _ (by decide +kernel)) ggX1_find_X8_begin
set_option maxRecDepth 20000 in
theorem ggX1_find_X8_goOn : GoodIn wsX1_find wsX8_goOn := goodIn_r _ [115, 108, 116, 117, 118, 106, 119, 120, 110, 121, 109, 111, 122, 123, 19, 124, 125, 32, 33, 34, 35, 36, 37, 38, 28, 39, 30, 40, 41, 42, 43, 44, 45, 46, 47, 48, 49, 50, 51, 52, 53, 54, 55, 56, 57, 58, 59, 60, 61, 62, 63, 64, 65, 66, 67, 68, 69, 70, 71, 72, 73, 74, 126, 79, 80, 127, 82, 83, 84, 85, 86, 87, 88, 89, 90, 91, 92, 93, 94, 95, 96, 97, 98, 99, 100, 101, 102, 128, 76, 77, 203, 204, 205, 206, 207, 208, 192, 193, 194, 195, 196, 197, 198, 199, 200, 201, 202] (by decide +kernel) (by decide +kernel)
set_option maxRecDepth 20000 in
theorem gX1_find_X8_goOn : GoodIn wsX1_find (wsV RX1 116 RX8 yX8_goOn wsX8_goOn) := goodIn_app (goodIn_of _ (by decide +kernel)) ggX1_find_X8_goOn
set_option maxRecDepth 20000 in
theorem ggX1_find_X8_takeAll : GoodIn wsX1_find wsX8_takeAll := goodIn_r _ [132, 108, 109, 110, 111, 203, 204, 205, 206, 207, 208] (by decide +kernel) (by decide +kernel)
set_option maxRecDepth 20000 in
theorem gX1_find_X8_takeAll : GoodIn wsX1_find (wsV RX1 120 RX8 yX8_takeAll wsX8_takeAll) := goodIn_app (goodIn_of _ (by decide +kernel)) ggX1_find_X8_takeAll
set_option maxRecDepth 20000 in
theorem ggX1_find_X1_tryLast : GoodIn wsX1_find wsX1_tryLast := goodIn_r _ [136, 10, 2, 7, 8, 137, 42, 43, 34, 44, 45, 46, 47, 48, 49, 50, 51, 52, 53, 54, 55, 56, 138, 139, 140, 28, 141, 30, 40, 142, 143, 144, 15, 145, 6, 25, 26, 27, 29, 31, 32, 33, 35, 36, 37, 38, 39, 41, 57, 58, 59, 60, 61, 62, 63, 64, 65, 66, 67, 68, 69, 70, 71, 72, 73, 74, 146, 147, 148, 149, 150, 9, 1, 23, 4, 21, 22, 129, 130, 131, 106, 132, 108, 109, 110, 111, 151, 152, 153, 154, 155, 117, 118, 119, 120, 121, 122, 123, 19, 124, 125, 126, 79, 80, 127, 82, 83, 84, 85, 86, 87, 88, 89, 90, 91, 92, 93, 94, 95, 96, 97, 98, 99, 100, 101, 102, 128, 76, 77, 156, 157, 158, 159, 160, 161, 162, 163, 164, 165, 166, 167, 3, 168, 17, 18, 20, 169, 170, 171, 172, 173, 174, 175, 176, 177, 178, 179, 180, 181, 182, 183, 184, 185, 186, 187, 188, 189, 190, 191, 194, 195, 196, 197, 198, 199, 192, 193, 203, 204, 205, 206, 207, 208, 200, 201, 202] (by decide +kernel) (by decide +kernel)
set_option maxRecDepth 20000 in
theorem gX1_find_X1_tryLast : GoodIn wsX1_find (wsV RX1 124 RX1 yX1_tryLast wsX1_tryLast) := goodIn_app (goodIn_of _ (by decide +kernel)) ggX1_find_X1_tryLast
set_option maxRecDepth 20000 in
theorem ggX1_find_X2_letterAlone : GoodIn wsX1_find wsX2_letterAlone := goodIn_r _ [44, 45, 46, 47, 34, 48, 49, 50, 51, 52, 53, 54, 55, 56, 194, 195, 196, 197, 198, 199] (by decide +kernel) (by decide +kernel)
set_option maxRecDepth 20000 in
theorem gX1_find_X2_letterAlone : GoodIn wsX1_find (wsV RX1 127 RX2 yX2_letterAlone wsX2_letterAlone) := goodIn_app (goodIn_of _ (by decide +kernel)) ggX1_find_X2_letterAlone
set_option maxRecDepth 20000 in
theorem ggX1_find_X5_set : GoodIn wsX1_find wsX5_set := goodIn_r _ [141, 30, 40, 192, 193] (by decide +kernel) (by decide +kernel)
set_option maxRecDepth 20000 in
theorem gX1_find_X5_set : GoodIn wsX1_find (wsV RX1 131 RX5 yX5_set wsX5_set) := goodIn_app (goodIn_of _ (by decide +kernel)) ggX1_find_X5_set
theorem dX1_find_0 : decode cX1_find 0 = .ok (.aload_n 0, 1) := by decide +kernel
theorem dX1_find_1 : decode cX1_find 1 = .ok (.iload_n 1, 1) := by decide +kernel
theorem dX1_find_2 : decode cX1_find 2 = .ok (.putfield 76, 3) := by decide +kernel
theorem dX1_find_5 : decode cX1_find 5 = .ok (.aload_n 0, 1) := by decide +kernel
theorem dX1_find_6 : decode cX1_find 6 = .ok (.iload_n 2, 1) := by decide +kernel
theorem dX1_find_7 : decode cX1_find 7 = .ok (.putfield 79, 3) := by decide +kernel
theorem dX1_find_10 : decode cX1_find 10 = .ok (.aload_n 0, 1) := by decide +kernel
theorem dX1_find_11 : decode cX1_find 11 = .ok (.iconst 0, 1) := by decide +kernel
theorem dX1_find_12 : decode cX1_find 12 = .ok (.putfield 65, 3) := by decide +kernel
theorem dX1_find_15 : decode cX1_find 15 = .ok (.aload_n 0, 1) := by decide +kernel
theorem dX1_find_16 : decode cX1_find 16 = .ok (.iconst 0, 1) := by decide +kernel
theorem dX1_find_17 : decode cX1_find 17 = .ok (.putfield 69, 3) := by decide +kernel
theorem dX1_find_20 : decode cX1_find 20 = .ok (.aload_n 0, 1) := by decide +kernel
theorem dX1_find_21 : decode cX1_find 21 = .ok (.invokevirtual 110, 3) := by decide +kernel
theorem dX1_find_24 : decode cX1_find 24 = .ok (.aload_n 0, 1) := by decide +kernel
theorem dX1_find_25 : decode cX1_find 25 = .ok (.getfield 55, 3) := by decide +kernel
theorem dX1_find_28 : decode cX1_find 28 = .ok (.invokevirtual 113, 3) := by decide +kernel
theorem dX1_find_31 : decode cX1_find 31 = .ok (.aload_n 0, 1) := by decide +kernel
theorem dX1_find_32 : decode cX1_find 32 = .ok (.getfield 82, 3) := by decide +kernel
theorem dX1_find_35 : decode cX1_find 35 = .ok (.iconst (-1), 1) := by decide +kernel
theorem dX1_find_36 : decode cX1_find 36 = .ok (.if_icmp .ne 38, 3) := by decide +kernel
theorem dX1_find_39 : decode cX1_find 39 = .ok (.aload_n 0, 1) := by decide +kernel
theorem dX1_find_40 : decode cX1_find 40 = .ok (.getfield 55, 3) := by decide +kernel
theorem dX1_find_43 : decode cX1_find 43 = .ok (.iload_n 1, 1) := by decide +kernel
theorem dX1_find_44 : decode cX1_find 44 = .ok (.aload_n 0, 1) := by decide +kernel
theorem dX1_find_45 : decode cX1_find 45 = .ok (.getfield 16, 3) := by decide +kernel
theorem dX1_find_48 : decode cX1_find 48 = .ok (.aload_n 0, 1) := by decide +kernel
theorem dX1_find_49 : decode cX1_find 49 = .ok (.getfield 85, 3) := by decide +kernel
theorem dX1_find_52 : decode cX1_find 52 = .ok (.invokevirtual 116, 3) := by decide +kernel
theorem dX1_find_55 : decode cX1_find 55 = .ok (.aload_n 0, 1) := by decide +kernel
theorem dX1_find_56 : decode cX1_find 56 = .ok (.getfield 59, 3) := by decide +kernel
theorem dX1_find_59 : decode cX1_find 59 = .ok (.aload_n 0, 1) := by decide +kernel
theorem dX1_find_60 : decode cX1_find 60 = .ok (.getfield 55, 3) := by decide +kernel
theorem dX1_find_63 : decode cX1_find 63 = .ok (.invokevirtual 120, 3) := by decide +kernel
theorem dX1_find_66 : decode cX1_find 66 = .ok (.aload_n 0, 1) := by decide +kernel
theorem dX1_find_67 : decode cX1_find 67 = .ok (.iconst (-1), 1) := by decide +kernel
theorem dX1_find_68 : decode cX1_find 68 = .ok (.invokevirtual 124, 3) := by decide +kernel
theorem dX1_find_71 : decode cX1_find 71 = .ok (.goto 91, 3) := by decide +kernel
theorem dX1_find_74 : decode cX1_find 74 = .ok (.aload_n 0, 1) := by decide +kernel
theorem dX1_find_75 : decode cX1_find 75 = .ok (.getfield 55, 3) := by decide +kernel
theorem dX1_find_78 : decode cX1_find 78 = .ok (.iload_n 1, 1) := by decide +kernel
theorem dX1_find_79 : decode cX1_find 79 = .ok (.aload_n 0, 1) := by decide +kernel
theorem dX1_find_80 : decode cX1_find 80 = .ok (.getfield 16, 3) := by decide +kernel
theorem dX1_find_83 : decode cX1_find 83 = .ok (.aload_n 0, 1) := by decide +kernel
theorem dX1_find_84 : decode cX1_find 84 = .ok (.getfield 82, 3) := by decide +kernel
theorem dX1_find_87 : decode cX1_find 87 = .ok (.invokevirtual 116, 3) := by decide +kernel
theorem dX1_find_90 : decode cX1_find 90 = .ok (.iconst 0, 1) := by decide +kernel
theorem dX1_find_91 : decode cX1_find 91 = .ok (.istore_n 3, 1) := by decide +kernel
theorem dX1_find_92 : decode cX1_find 92 = .ok (.iload_n 3, 1) := by decide +kernel
theorem dX1_find_93 : decode cX1_find 93 = .ok (.sipush 256, 3) := by decide +kernel
theorem dX1_find_96 : decode cX1_find 96 = .ok (.if_icmp .ge 66, 3) := by decide +kernel
theorem dX1_find_99 : decode cX1_find 99 = .ok (.aload_n 0, 1) := by decide +kernel
theorem dX1_find_100 : decode cX1_find 100 = .ok (.getfield 42, 3) := by decide +kernel
theorem dX1_find_103 : decode cX1_find 103 = .ok (.iload_n 2, 1) := by decide +kernel
theorem dX1_find_104 : decode cX1_find 104 = .ok (.iload_n 3, 1) := by decide +kernel
theorem dX1_find_105 : decode cX1_find 105 = .ok (.invokevirtual 127, 3) := by decide +kernel
theorem dX1_find_108 : decode cX1_find 108 = .ok (.iconst (-1), 1) := by decide +kernel
theorem dX1_find_109 : decode cX1_find 109 = .ok (.if_icmp .ne 47, 3) := by decide +kernel
theorem dX1_find_112 : decode cX1_find 112 = .ok (.aload_n 0, 1) := by decide +kernel
theorem dX1_find_113 : decode cX1_find 113 = .ok (.getfield 16, 3) := by decide +kernel
theorem dX1_find_116 : decode cX1_find 116 = .ok (.aload_n 0, 1) := by decide +kernel
theorem dX1_find_117 : decode cX1_find 117 = .ok (.getfield 82, 3) := by decide +kernel
theorem dX1_find_120 : decode cX1_find 120 = .ok (.iload_n 3, 1) := by decide +kernel
theorem dX1_find_121 : decode cX1_find 121 = .ok (.invokevirtual 131, 3) := by decide +kernel
theorem dX1_find_124 : decode cX1_find 124 = .ok (.aload_n 0, 1) := by decide +kernel
theorem dX1_find_125 : decode cX1_find 125 = .ok (.getfield 59, 3) := by decide +kernel
theorem dX1_find_128 : decode cX1_find 128 = .ok (.aload_n 0, 1) := by decide +kernel
theorem dX1_find_129 : decode cX1_find 129 = .ok (.getfield 55, 3) := by decide +kernel
theorem dX1_find_132 : decode cX1_find 132 = .ok (.invokevirtual 120, 3) := by decide +kernel
theorem dX1_find_135 : decode cX1_find 135 = .ok (.aload_n 0, 1) := by decide +kernel
theorem dX1_find_136 : decode cX1_find 136 = .ok (.getfield 59, 3) := by decide +kernel
theorem dX1_find_139 : decode cX1_find 139 = .ok (.iload_n 1, 1) := by decide +kernel
theorem dX1_find_140 : decode cX1_find 140 = .ok (.aload_n 0, 1) := by decide +kernel
theorem dX1_find_141 : decode cX1_find 141 = .ok (.getfield 16, 3) := by decide +kernel
theorem dX1_find_144 : decode cX1_find 144 = .ok (.aload_n 0, 1) := by decide +kernel
theorem dX1_find_145 : decode cX1_find 145 = .ok (.getfield 85, 3) := by decide +kernel
theorem dX1_find_148 : decode cX1_find 148 = .ok (.invokevirtual 116, 3) := by decide +kernel
theorem dX1_find_151 : decode cX1_find 151 = .ok (.aload_n 0, 1) := by decide +kernel
theorem dX1_find_152 : decode cX1_find 152 = .ok (.iload_n 3, 1) := by decide +kernel
theorem dX1_find_153 : decode cX1_find 153 = .ok (.invokevirtual 124, 3) := by decide +kernel
theorem dX1_find_156 : decode cX1_find 156 = .ok (.iinc 3 1, 3) := by decide +kernel
theorem dX1_find_159 : decode cX1_find 159 = .ok (.goto (-67), 3) := by decide +kernel
theorem dX1_find_162 : decode cX1_find 162 = .ok (.aload_n 0, 1) := by decide +kernel
theorem dX1_find_163 : decode cX1_find 163 = .ok (.iconst 1, 1) := by decide +kernel
theorem dX1_find_164 : decode cX1_find 164 = .ok (.putfield 72, 3) := by decide +kernel
theorem dX1_find_167 : decode cX1_find 167 = .ok (.aload_n 0, 1) := by decide +kernel
theorem dX1_find_168 : decode cX1_find 168 = .ok (.getfield 69, 3) := by decide +kernel
theorem dX1_find_171 : decode cX1_find 171 = .ok (.ireturn, 1) := by decide +kernel
set_option maxRecDepth 20000 in
theorem ggX1_findTails_X5_length : GoodIn wsX1_findTails wsX5_length := goodIn_r _ [17, 18, 111, 112] (by decide +kernel) (by decide +kernel)
set_option maxRecDepth 20000 in
theorem gX1_findTails_X5_length : GoodIn wsX1_findTails (wsV RX1 91 RX5 yX5_length wsX5_length) := goodIn_app (goodIn_of _ (by decide +kernel)) ggX1_findTails_X5_length
set_option maxRecDepth 20000 in
theorem ggX1_findTails_X2_decode : GoodIn wsX1_findTails wsX2_decode := goodIn_r _ [23, 24, 25, 26, 16, 27, 18, 28, 29, 30, 31, 22, 32, 33, 34, 35, 36, 37, 38, 39, 40, 41, 42, 43, 44, 45, 46, 47, 48, 49, 50, 51, 52, 53, 54, 55, 56, 57, 58, 59, 60, 61, 62, 111, 112, 113, 114, 115, 116, 117, 118] (by decide +kernel) (by decide +kernel)
set_option maxRecDepth 20000 in
theorem gX1_findTails_X2_decode : GoodIn wsX1_findTails (wsV RX1 140 RX2 yX2_decode wsX2_decode) := goodIn_app (goodIn_of _ (by decide +kernel)) ggX1_findTails_X2_decode
set_option maxRecDepth 20000 in
theorem ggX1_findTails_X2_bytesIn : GoodIn wsX1_findTails wsX2_bytesIn := goodIn_r _ [65] (by decide +kernel) (by decide +kernel)
set_option maxRecDepth 20000 in
theorem gX1_findTails_X2_bytesIn : GoodIn wsX1_findTails (va_wsS RX1 144 yX2_bytesIn wsX2_bytesIn) := goodIn_app (goodIn_of _ (by decide +kernel)) ggX1_findTails_X2_bytesIn
set_option maxRecDepth 20000 in
theorem ggX1_findTails_X2_letterIn : GoodIn wsX1_findTails wsX2_letterIn := goodIn_r _ [68] (by decide +kernel) (by decide +kernel)
set_option maxRecDepth 20000 in
theorem gX1_findTails_X2_letterIn : GoodIn wsX1_findTails (va_wsS RX1 147 yX2_letterIn wsX2_letterIn) := goodIn_app (goodIn_of _ (by decide +kernel)) ggX1_findTails_X2_letterIn
set_option maxRecDepth 20000 in
theorem ggX1_findTails_X3_of : GoodIn wsX1_findTails wsX3_of := goodIn_r _ [73, 74, 75, 76, 77, 78, 72, 79, 80, 81, 82, 83, 84, 85, 86, 87, 88, 89, 90, 119, 120, 121] (by decide +kernel) (by decide +kernel)
set_option maxRecDepth 20000 in
theorem gX1_findTails_X3_of : GoodIn wsX1_findTails (wsV RX1 150 RX3 yX3_of wsX3_of) := goodIn_app (goodIn_of _ (by decide +kernel)) ggX1_findTails_X3_of
theorem dX1_findTails_0 : decode cX1_findTails 0 = .ok (.aload_n 0, 1) := by decide +kernel
theorem dX1_findTails_1 : decode cX1_findTails 1 = .ok (.getfield 16, 3) := by decide +kernel
theorem dX1_findTails_4 : decode cX1_findTails 4 = .ok (.invokevirtual 91, 3) := by decide +kernel
theorem dX1_findTails_7 : decode cX1_findTails 7 = .ok (.sipush 800, 3) := by decide +kernel
theorem dX1_findTails_10 : decode cX1_findTails 10 = .ok (.invokestatic 135, 3) := by decide +kernel
theorem dX1_findTails_13 : decode cX1_findTails 13 = .ok (.istore_n 1, 1) := by decide +kernel
theorem dX1_findTails_14 : decode cX1_findTails 14 = .ok (.aload_n 0, 1) := by decide +kernel
theorem dX1_findTails_15 : decode cX1_findTails 15 = .ok (.getfield 20, 3) := by decide +kernel
theorem dX1_findTails_18 : decode cX1_findTails 18 = .ok (.iload_n 1, 1) := by decide +kernel
theorem dX1_findTails_19 : decode cX1_findTails 19 = .ok (.bipush 32, 2) := by decide +kernel
theorem dX1_findTails_21 : decode cX1_findTails 21 = .ok (.iastore, 1) := by decide +kernel
theorem dX1_findTails_22 : decode cX1_findTails 22 = .ok (.aload_n 0, 1) := by decide +kernel
theorem dX1_findTails_23 : decode cX1_findTails 23 = .ok (.getfield 24, 3) := by decide +kernel
theorem dX1_findTails_26 : decode cX1_findTails 26 = .ok (.iload_n 1, 1) := by decide +kernel
theorem dX1_findTails_27 : decode cX1_findTails 27 = .ok (.iconst 0, 1) := by decide +kernel
theorem dX1_findTails_28 : decode cX1_findTails 28 = .ok (.iastore, 1) := by decide +kernel
theorem dX1_findTails_29 : decode cX1_findTails 29 = .ok (.aload_n 0, 1) := by decide +kernel
theorem dX1_findTails_30 : decode cX1_findTails 30 = .ok (.getfield 27, 3) := by decide +kernel
theorem dX1_findTails_33 : decode cX1_findTails 33 = .ok (.iload_n 1, 1) := by decide +kernel
theorem dX1_findTails_34 : decode cX1_findTails 34 = .ok (.iconst 0, 1) := by decide +kernel
theorem dX1_findTails_35 : decode cX1_findTails 35 = .ok (.iastore, 1) := by decide +kernel
theorem dX1_findTails_36 : decode cX1_findTails 36 = .ok (.iload_n 1, 1) := by decide +kernel
theorem dX1_findTails_37 : decode cX1_findTails 37 = .ok (.iconst 1, 1) := by decide +kernel
theorem dX1_findTails_38 : decode cX1_findTails 38 = .ok (.isub, 1) := by decide +kernel
theorem dX1_findTails_39 : decode cX1_findTails 39 = .ok (.istore_n 2, 1) := by decide +kernel
theorem dX1_findTails_40 : decode cX1_findTails 40 = .ok (.iload_n 2, 1) := by decide +kernel
theorem dX1_findTails_41 : decode cX1_findTails 41 = .ok (.aload_n 0, 1) := by decide +kernel
theorem dX1_findTails_42 : decode cX1_findTails 42 = .ok (.getfield 85, 3) := by decide +kernel
theorem dX1_findTails_45 : decode cX1_findTails 45 = .ok (.if_icmp .le 140, 3) := by decide +kernel
theorem dX1_findTails_48 : decode cX1_findTails 48 = .ok (.iload_n 2, 1) := by decide +kernel
theorem dX1_findTails_49 : decode cX1_findTails 49 = .ok (.ifCond .lt 136, 3) := by decide +kernel
theorem dX1_findTails_52 : decode cX1_findTails 52 = .ok (.aload_n 0, 1) := by decide +kernel
theorem dX1_findTails_53 : decode cX1_findTails 53 = .ok (.getfield 42, 3) := by decide +kernel
theorem dX1_findTails_56 : decode cX1_findTails 56 = .ok (.aload_n 0, 1) := by decide +kernel
theorem dX1_findTails_57 : decode cX1_findTails 57 = .ok (.getfield 76, 3) := by decide +kernel
theorem dX1_findTails_60 : decode cX1_findTails 60 = .ok (.aload_n 0, 1) := by decide +kernel
theorem dX1_findTails_61 : decode cX1_findTails 61 = .ok (.getfield 16, 3) := by decide +kernel
theorem dX1_findTails_64 : decode cX1_findTails 64 = .ok (.iload_n 2, 1) := by decide +kernel
theorem dX1_findTails_65 : decode cX1_findTails 65 = .ok (.iload_n 1, 1) := by decide +kernel
theorem dX1_findTails_66 : decode cX1_findTails 66 = .ok (.invokevirtual 140, 3) := by decide +kernel
theorem dX1_findTails_69 : decode cX1_findTails 69 = .ok (.istore_n 3, 1) := by decide +kernel
theorem dX1_findTails_70 : decode cX1_findTails 70 = .ok (.iload_n 3, 1) := by decide +kernel
theorem dX1_findTails_71 : decode cX1_findTails 71 = .ok (.iconst (-1), 1) := by decide +kernel
theorem dX1_findTails_72 : decode cX1_findTails 72 = .ok (.if_icmp .ne 7, 3) := by decide +kernel
theorem dX1_findTails_75 : decode cX1_findTails 75 = .ok (.iconst (-1), 1) := by decide +kernel
theorem dX1_findTails_76 : decode cX1_findTails 76 = .ok (.goto 9, 3) := by decide +kernel
theorem dX1_findTails_79 : decode cX1_findTails 79 = .ok (.iload_n 2, 1) := by decide +kernel
theorem dX1_findTails_80 : decode cX1_findTails 80 = .ok (.iload_n 3, 1) := by decide +kernel
theorem dX1_findTails_81 : decode cX1_findTails 81 = .ok (.invokestatic 144, 3) := by decide +kernel
theorem dX1_findTails_84 : decode cX1_findTails 84 = .ok (.iadd, 1) := by decide +kernel
theorem dX1_findTails_85 : decode cX1_findTails 85 = .ok (.istore 4, 2) := by decide +kernel
theorem dX1_findTails_87 : decode cX1_findTails 87 = .ok (.iload 4, 2) := by decide +kernel
theorem dX1_findTails_89 : decode cX1_findTails 89 = .ok (.iload_n 2, 1) := by decide +kernel
theorem dX1_findTails_90 : decode cX1_findTails 90 = .ok (.if_icmp .le 20, 3) := by decide +kernel
theorem dX1_findTails_93 : decode cX1_findTails 93 = .ok (.iload 4, 2) := by decide +kernel
theorem dX1_findTails_95 : decode cX1_findTails 95 = .ok (.iload_n 1, 1) := by decide +kernel
theorem dX1_findTails_96 : decode cX1_findTails 96 = .ok (.if_icmp .gt 14, 3) := by decide +kernel
theorem dX1_findTails_99 : decode cX1_findTails 99 = .ok (.aload_n 0, 1) := by decide +kernel
theorem dX1_findTails_100 : decode cX1_findTails 100 = .ok (.getfield 27, 3) := by decide +kernel
theorem dX1_findTails_103 : decode cX1_findTails 103 = .ok (.iload 4, 2) := by decide +kernel
theorem dX1_findTails_105 : decode cX1_findTails 105 = .ok (.iaload, 1) := by decide +kernel
theorem dX1_findTails_106 : decode cX1_findTails 106 = .ok (.iconst (-1), 1) := by decide +kernel
theorem dX1_findTails_107 : decode cX1_findTails 107 = .ok (.if_icmp .ne 13, 3) := by decide +kernel
theorem dX1_findTails_110 : decode cX1_findTails 110 = .ok (.aload_n 0, 1) := by decide +kernel
theorem dX1_findTails_111 : decode cX1_findTails 111 = .ok (.getfield 27, 3) := by decide +kernel
theorem dX1_findTails_114 : decode cX1_findTails 114 = .ok (.iload_n 2, 1) := by decide +kernel
theorem dX1_findTails_115 : decode cX1_findTails 115 = .ok (.iconst (-1), 1) := by decide +kernel
theorem dX1_findTails_116 : decode cX1_findTails 116 = .ok (.iastore, 1) := by decide +kernel
theorem dX1_findTails_117 : decode cX1_findTails 117 = .ok (.goto 62, 3) := by decide +kernel
theorem dX1_findTails_120 : decode cX1_findTails 120 = .ok (.aload_n 0, 1) := by decide +kernel
theorem dX1_findTails_121 : decode cX1_findTails 121 = .ok (.getfield 20, 3) := by decide +kernel
theorem dX1_findTails_124 : decode cX1_findTails 124 = .ok (.iload_n 2, 1) := by decide +kernel
theorem dX1_findTails_125 : decode cX1_findTails 125 = .ok (.iload_n 3, 1) := by decide +kernel
theorem dX1_findTails_126 : decode cX1_findTails 126 = .ok (.invokestatic 147, 3) := by decide +kernel
theorem dX1_findTails_129 : decode cX1_findTails 129 = .ok (.iastore, 1) := by decide +kernel
theorem dX1_findTails_130 : decode cX1_findTails 130 = .ok (.aload_n 0, 1) := by decide +kernel
theorem dX1_findTails_131 : decode cX1_findTails 131 = .ok (.getfield 24, 3) := by decide +kernel
theorem dX1_findTails_134 : decode cX1_findTails 134 = .ok (.iload_n 2, 1) := by decide +kernel
theorem dX1_findTails_135 : decode cX1_findTails 135 = .ok (.aload_n 0, 1) := by decide +kernel
theorem dX1_findTails_136 : decode cX1_findTails 136 = .ok (.getfield 24, 3) := by decide +kernel
theorem dX1_findTails_139 : decode cX1_findTails 139 = .ok (.iload 4, 2) := by decide +kernel
theorem dX1_findTails_141 : decode cX1_findTails 141 = .ok (.iaload, 1) := by decide +kernel
theorem dX1_findTails_142 : decode cX1_findTails 142 = .ok (.aload_n 0, 1) := by decide +kernel
theorem dX1_findTails_143 : decode cX1_findTails 143 = .ok (.getfield 46, 3) := by decide +kernel
theorem dX1_findTails_146 : decode cX1_findTails 146 = .ok (.aload_n 0, 1) := by decide +kernel
theorem dX1_findTails_147 : decode cX1_findTails 147 = .ok (.getfield 20, 3) := by decide +kernel
theorem dX1_findTails_150 : decode cX1_findTails 150 = .ok (.iload_n 2, 1) := by decide +kernel
theorem dX1_findTails_151 : decode cX1_findTails 151 = .ok (.iaload, 1) := by decide +kernel
theorem dX1_findTails_152 : decode cX1_findTails 152 = .ok (.aload_n 0, 1) := by decide +kernel
theorem dX1_findTails_153 : decode cX1_findTails 153 = .ok (.getfield 20, 3) := by decide +kernel
theorem dX1_findTails_156 : decode cX1_findTails 156 = .ok (.iload 4, 2) := by decide +kernel
theorem dX1_findTails_158 : decode cX1_findTails 158 = .ok (.iaload, 1) := by decide +kernel
theorem dX1_findTails_159 : decode cX1_findTails 159 = .ok (.invokevirtual 150, 3) := by decide +kernel
theorem dX1_findTails_162 : decode cX1_findTails 162 = .ok (.iadd, 1) := by decide +kernel
theorem dX1_findTails_163 : decode cX1_findTails 163 = .ok (.iastore, 1) := by decide +kernel
theorem dX1_findTails_164 : decode cX1_findTails 164 = .ok (.aload_n 0, 1) := by decide +kernel
theorem dX1_findTails_165 : decode cX1_findTails 165 = .ok (.getfield 27, 3) := by decide +kernel
theorem dX1_findTails_168 : decode cX1_findTails 168 = .ok (.iload_n 2, 1) := by decide +kernel
theorem dX1_findTails_169 : decode cX1_findTails 169 = .ok (.aload_n 0, 1) := by decide +kernel
theorem dX1_findTails_170 : decode cX1_findTails 170 = .ok (.getfield 27, 3) := by decide +kernel
theorem dX1_findTails_173 : decode cX1_findTails 173 = .ok (.iload 4, 2) := by decide +kernel
theorem dX1_findTails_175 : decode cX1_findTails 175 = .ok (.iaload, 1) := by decide +kernel
theorem dX1_findTails_176 : decode cX1_findTails 176 = .ok (.iconst 1, 1) := by decide +kernel
theorem dX1_findTails_177 : decode cX1_findTails 177 = .ok (.iadd, 1) := by decide +kernel
theorem dX1_findTails_178 : decode cX1_findTails 178 = .ok (.iastore, 1) := by decide +kernel
theorem dX1_findTails_179 : decode cX1_findTails 179 = .ok (.iinc 2 (-1), 3) := by decide +kernel
theorem dX1_findTails_182 : decode cX1_findTails 182 = .ok (.goto (-142), 3) := by decide +kernel
theorem dX1_findTails_185 : decode cX1_findTails 185 = .ok (.return_, 1) := by decide +kernel
set_option maxRecDepth 20000 in
theorem ggX1_tryLast_X2_letterAlone : GoodIn wsX1_tryLast wsX2_letterAlone := goodIn_r _ [9, 10, 11, 12, 8, 13, 14, 15, 16, 17, 18, 19, 20, 21, 169, 170, 171, 172, 173, 174] (by decide +kernel) (by decide +kernel)
set_option maxRecDepth 20000 in
theorem gX1_tryLast_X2_letterAlone : GoodIn wsX1_tryLast (wsV RX1 127 RX2 yX2_letterAlone wsX2_letterAlone) := goodIn_app (goodIn_of _ (by decide +kernel)) ggX1_tryLast_X2_letterAlone
set_option maxRecDepth 20000 in
theorem ggX1_tryLast_X5_set : GoodIn wsX1_tryLast wsX5_set := goodIn_r _ [26, 27, 28, 175, 176] (by decide +kernel) (by decide +kernel)
set_option maxRecDepth 20000 in
theorem gX1_tryLast_X5_set : GoodIn wsX1_tryLast (wsV RX1 131 RX5 yX5_set wsX5_set) := goodIn_app (goodIn_of _ (by decide +kernel)) ggX1_tryLast_X5_set
set_option maxRecDepth 20000 in
theorem ggX1_tryLast_X1_comesBack : GoodIn wsX1_tryLast wsX1_comesBack := goodIn_r _ [33, 3, 1, 2, 4, 34, 35, 36, 37, 25, 38, 27, 39, 40, 41, 8, 42, 43, 44, 45, 46, 28, 47, 6, 7, 9, 10, 11, 12, 13, 14, 15, 16, 17, 18, 19, 20, 21, 48, 49, 50, 51, 52, 53, 54, 55, 56, 57, 58, 59, 60, 61, 62, 63, 64, 65, 149, 150, 151, 152, 153, 154, 155, 156, 157, 158, 159, 160, 161, 162, 163, 164, 165, 166, 167, 168, 175, 176, 169, 170, 171, 172, 173, 174] (by decide +kernel) (by decide +kernel)
set_option maxRecDepth 20000 in
theorem gX1_tryLast_X1_comesBack : GoodIn wsX1_tryLast (wsV RX1 155 RX1 yX1_comesBack wsX1_comesBack) := goodIn_app (goodIn_of _ (by decide +kernel)) ggX1_tryLast_X1_comesBack
set_option maxRecDepth 20000 in
theorem ggX1_tryLast_X1_tryWhole : GoodIn wsX1_tryLast wsX1_tryWhole := goodIn_r _ [69, 70, 71, 4, 72, 3, 73, 74, 75, 76, 77, 78, 79, 80, 81, 82, 83, 84, 85, 86, 87, 88, 89, 35, 36, 37, 25, 38, 27, 90, 91, 92, 93, 94, 95, 96, 97, 98, 99, 100, 40, 41, 8, 42, 43, 44, 45, 46, 28, 47, 6, 7, 9, 10, 11, 12, 13, 14, 15, 16, 17, 18, 19, 20, 21, 48, 49, 50, 51, 52, 53, 54, 55, 56, 57, 58, 59, 60, 61, 62, 63, 64, 65, 101, 102, 103, 104, 105, 106, 107, 108, 109, 110, 111, 112, 113, 114, 115, 116, 117, 118, 119, 120, 121, 122, 123, 124, 125, 126, 127, 128, 129, 130, 131, 132, 133, 134, 135, 136, 137, 138, 139, 32, 140, 141, 142, 143, 144, 145, 146, 147, 148, 149, 150, 151, 152, 153, 154, 155, 156, 157, 158, 159, 160, 161, 162, 163, 164, 165, 166, 167, 168, 177, 178, 179, 180, 181, 182, 175, 176, 169, 170, 171, 172, 173, 174, 183, 184, 185] (by decide +kernel) (by decide +kernel)
set_option maxRecDepth 20000 in
theorem gX1_tryLast_X1_tryWhole : GoodIn wsX1_tryLast (wsV RX1 159 RX1 yX1_tryWhole wsX1_tryWhole) := goodIn_app (goodIn_of _ (by decide +kernel)) ggX1_tryLast_X1_tryWhole
theorem dX1_tryLast_0 : decode cX1_tryLast 0 = .ok (.iconst 0, 1) := by decide +kernel
theorem dX1_tryLast_1 : decode cX1_tryLast 1 = .ok (.istore_n 2, 1) := by decide +kernel
theorem dX1_tryLast_2 : decode cX1_tryLast 2 = .ok (.iload_n 2, 1) := by decide +kernel
theorem dX1_tryLast_3 : decode cX1_tryLast 3 = .ok (.sipush 256, 3) := by decide +kernel
theorem dX1_tryLast_6 : decode cX1_tryLast 6 = .ok (.if_icmp .ge 50, 3) := by decide +kernel
theorem dX1_tryLast_9 : decode cX1_tryLast 9 = .ok (.aload_n 0, 1) := by decide +kernel
theorem dX1_tryLast_10 : decode cX1_tryLast 10 = .ok (.getfield 42, 3) := by decide +kernel
theorem dX1_tryLast_13 : decode cX1_tryLast 13 = .ok (.aload_n 0, 1) := by decide +kernel
theorem dX1_tryLast_14 : decode cX1_tryLast 14 = .ok (.getfield 79, 3) := by decide +kernel
theorem dX1_tryLast_17 : decode cX1_tryLast 17 = .ok (.iload_n 2, 1) := by decide +kernel
theorem dX1_tryLast_18 : decode cX1_tryLast 18 = .ok (.invokevirtual 127, 3) := by decide +kernel
theorem dX1_tryLast_21 : decode cX1_tryLast 21 = .ok (.iconst (-1), 1) := by decide +kernel
theorem dX1_tryLast_22 : decode cX1_tryLast 22 = .ok (.if_icmp .ne 28, 3) := by decide +kernel
theorem dX1_tryLast_25 : decode cX1_tryLast 25 = .ok (.aload_n 0, 1) := by decide +kernel
theorem dX1_tryLast_26 : decode cX1_tryLast 26 = .ok (.getfield 16, 3) := by decide +kernel
theorem dX1_tryLast_29 : decode cX1_tryLast 29 = .ok (.aload_n 0, 1) := by decide +kernel
theorem dX1_tryLast_30 : decode cX1_tryLast 30 = .ok (.getfield 85, 3) := by decide +kernel
theorem dX1_tryLast_33 : decode cX1_tryLast 33 = .ok (.iload_n 2, 1) := by decide +kernel
theorem dX1_tryLast_34 : decode cX1_tryLast 34 = .ok (.invokevirtual 131, 3) := by decide +kernel
theorem dX1_tryLast_37 : decode cX1_tryLast 37 = .ok (.aload_n 0, 1) := by decide +kernel
theorem dX1_tryLast_38 : decode cX1_tryLast 38 = .ok (.invokevirtual 155, 3) := by decide +kernel
theorem dX1_tryLast_41 : decode cX1_tryLast 41 = .ok (.ifCond .eq 9, 3) := by decide +kernel
theorem dX1_tryLast_44 : decode cX1_tryLast 44 = .ok (.aload_n 0, 1) := by decide +kernel
theorem dX1_tryLast_45 : decode cX1_tryLast 45 = .ok (.iload_n 1, 1) := by decide +kernel
theorem dX1_tryLast_46 : decode cX1_tryLast 46 = .ok (.iload_n 2, 1) := by decide +kernel
theorem dX1_tryLast_47 : decode cX1_tryLast 47 = .ok (.invokevirtual 159, 3) := by decide +kernel
theorem dX1_tryLast_50 : decode cX1_tryLast 50 = .ok (.iinc 2 1, 3) := by decide +kernel
theorem dX1_tryLast_53 : decode cX1_tryLast 53 = .ok (.goto (-51), 3) := by decide +kernel
theorem dX1_tryLast_56 : decode cX1_tryLast 56 = .ok (.return_, 1) := by decide +kernel
set_option maxRecDepth 20000 in
theorem ggX1_comesBack_X5_length : GoodIn wsX1_comesBack wsX5_length := goodIn_r _ [10, 11, 76, 77] (by decide +kernel) (by decide +kernel)
set_option maxRecDepth 20000 in
theorem gX1_comesBack_X5_length : GoodIn wsX1_comesBack (wsV RX1 91 RX5 yX5_length wsX5_length) := goodIn_app (goodIn_of _ (by decide +kernel)) ggX1_comesBack_X5_length
set_option maxRecDepth 20000 in
theorem ggX1_comesBack_X2_decode : GoodIn wsX1_comesBack wsX2_decode := goodIn_r _ [16, 17, 18, 19, 9, 20, 11, 21, 22, 23, 24, 15, 25, 26, 27, 28, 29, 30, 31, 32, 33, 34, 35, 36, 37, 38, 39, 40, 41, 42, 43, 44, 45, 46, 47, 48, 49, 50, 51, 52, 53, 54, 55, 76, 77, 78, 79, 80, 81, 82, 83] (by decide +kernel) (by decide +kernel)
set_option maxRecDepth 20000 in
theorem gX1_comesBack_X2_decode : GoodIn wsX1_comesBack (wsV RX1 140 RX2 yX2_decode wsX2_decode) := goodIn_app (goodIn_of _ (by decide +kernel)) ggX1_comesBack_X2_decode
theorem dX1_comesBack_0 : decode cX1_comesBack 0 = .ok (.aload_n 0, 1) := by decide +kernel
theorem dX1_comesBack_1 : decode cX1_comesBack 1 = .ok (.getfield 16, 3) := by decide +kernel
theorem dX1_comesBack_4 : decode cX1_comesBack 4 = .ok (.invokevirtual 91, 3) := by decide +kernel
theorem dX1_comesBack_7 : decode cX1_comesBack 7 = .ok (.istore_n 1, 1) := by decide +kernel
theorem dX1_comesBack_8 : decode cX1_comesBack 8 = .ok (.aload_n 0, 1) := by decide +kernel
theorem dX1_comesBack_9 : decode cX1_comesBack 9 = .ok (.getfield 42, 3) := by decide +kernel
theorem dX1_comesBack_12 : decode cX1_comesBack 12 = .ok (.aload_n 0, 1) := by decide +kernel
theorem dX1_comesBack_13 : decode cX1_comesBack 13 = .ok (.getfield 79, 3) := by decide +kernel
theorem dX1_comesBack_16 : decode cX1_comesBack 16 = .ok (.aload_n 0, 1) := by decide +kernel
theorem dX1_comesBack_17 : decode cX1_comesBack 17 = .ok (.getfield 16, 3) := by decide +kernel
theorem dX1_comesBack_20 : decode cX1_comesBack 20 = .ok (.aload_n 0, 1) := by decide +kernel
theorem dX1_comesBack_21 : decode cX1_comesBack 21 = .ok (.getfield 85, 3) := by decide +kernel
theorem dX1_comesBack_24 : decode cX1_comesBack 24 = .ok (.iload_n 1, 1) := by decide +kernel
theorem dX1_comesBack_25 : decode cX1_comesBack 25 = .ok (.invokevirtual 140, 3) := by decide +kernel
theorem dX1_comesBack_28 : decode cX1_comesBack 28 = .ok (.iconst (-1), 1) := by decide +kernel
theorem dX1_comesBack_29 : decode cX1_comesBack 29 = .ok (.if_icmp .ne 39, 3) := by decide +kernel
theorem dX1_comesBack_32 : decode cX1_comesBack 32 = .ok (.aload_n 0, 1) := by decide +kernel
theorem dX1_comesBack_33 : decode cX1_comesBack 33 = .ok (.getfield 82, 3) := by decide +kernel
theorem dX1_comesBack_36 : decode cX1_comesBack 36 = .ok (.iconst (-1), 1) := by decide +kernel
theorem dX1_comesBack_37 : decode cX1_comesBack 37 = .ok (.if_icmp .eq 27, 3) := by decide +kernel
theorem dX1_comesBack_40 : decode cX1_comesBack 40 = .ok (.aload_n 0, 1) := by decide +kernel
theorem dX1_comesBack_41 : decode cX1_comesBack 41 = .ok (.getfield 42, 3) := by decide +kernel
theorem dX1_comesBack_44 : decode cX1_comesBack 44 = .ok (.aload_n 0, 1) := by decide +kernel
theorem dX1_comesBack_45 : decode cX1_comesBack 45 = .ok (.getfield 79, 3) := by decide +kernel
theorem dX1_comesBack_48 : decode cX1_comesBack 48 = .ok (.aload_n 0, 1) := by decide +kernel
theorem dX1_comesBack_49 : decode cX1_comesBack 49 = .ok (.getfield 16, 3) := by decide +kernel
theorem dX1_comesBack_52 : decode cX1_comesBack 52 = .ok (.aload_n 0, 1) := by decide +kernel
theorem dX1_comesBack_53 : decode cX1_comesBack 53 = .ok (.getfield 82, 3) := by decide +kernel
theorem dX1_comesBack_56 : decode cX1_comesBack 56 = .ok (.iload_n 1, 1) := by decide +kernel
theorem dX1_comesBack_57 : decode cX1_comesBack 57 = .ok (.invokevirtual 140, 3) := by decide +kernel
theorem dX1_comesBack_60 : decode cX1_comesBack 60 = .ok (.iconst (-1), 1) := by decide +kernel
theorem dX1_comesBack_61 : decode cX1_comesBack 61 = .ok (.if_icmp .ne 7, 3) := by decide +kernel
theorem dX1_comesBack_64 : decode cX1_comesBack 64 = .ok (.iconst 1, 1) := by decide +kernel
theorem dX1_comesBack_65 : decode cX1_comesBack 65 = .ok (.goto 4, 3) := by decide +kernel
theorem dX1_comesBack_68 : decode cX1_comesBack 68 = .ok (.iconst 0, 1) := by decide +kernel
theorem dX1_comesBack_69 : decode cX1_comesBack 69 = .ok (.ireturn, 1) := by decide +kernel
set_option maxRecDepth 20000 in
theorem ggX1_tryWhole_X8_takeAll : GoodIn wsX1_tryWhole wsX8_takeAll := goodIn_r _ [14, 15, 16, 17, 18, 152, 153, 154, 155, 156, 157] (by decide +kernel) (by decide +kernel)
set_option maxRecDepth 20000 in
theorem gX1_tryWhole_X8_takeAll : GoodIn wsX1_tryWhole (wsV RX1 120 RX8 yX8_takeAll wsX8_takeAll) := goodIn_app (goodIn_of _ (by decide +kernel)) ggX1_tryWhole_X8_takeAll
set_option maxRecDepth 20000 in
theorem ggX1_tryWhole_X8_reached : GoodIn wsX1_tryWhole wsX8_reached := goodIn_r _ [22, 15, 152, 153, 154, 155, 156, 157] (by decide +kernel) (by decide +kernel)
set_option maxRecDepth 20000 in
theorem gX1_tryWhole_X8_reached : GoodIn wsX1_tryWhole (wsV RX1 162 RX8 yX8_reached wsX8_reached) := goodIn_app (goodIn_of _ (by decide +kernel)) ggX1_tryWhole_X8_reached
set_option maxRecDepth 20000 in
theorem ggX1_tryWhole_X5_length : GoodIn wsX1_tryWhole wsX5_length := goodIn_r _ [27, 28, 158, 159] (by decide +kernel) (by decide +kernel)
set_option maxRecDepth 20000 in
theorem gX1_tryWhole_X5_length : GoodIn wsX1_tryWhole (wsV RX1 91 RX5 yX5_length wsX5_length) := goodIn_app (goodIn_of _ (by decide +kernel)) ggX1_tryWhole_X5_length
set_option maxRecDepth 20000 in
theorem ggX1_tryWhole_X8_step : GoodIn wsX1_tryWhole wsX8_step := goodIn_r _ [32, 33, 15, 17, 34, 16, 18, 35, 36, 37, 38, 39, 40, 41, 42, 43, 44, 45, 46, 26, 47, 28, 48, 49, 50, 51, 52, 53, 54, 55, 56, 57, 58, 59, 60, 61, 62, 63, 64, 65, 66, 67, 68, 69, 70, 71, 72, 73, 74, 75, 76, 77, 78, 79, 80, 81, 82, 83, 84, 85, 86, 87, 88, 89, 90, 91, 92, 93, 94, 95, 96, 97, 98, 99, 100, 101, 102, 103, 104, 105, 106, 107, 108, 109, 110, 152, 153, 154, 155, 156, 157, 158, 159, 160, 161, 162, 163, 164, 165, 166, 167, 168] (by decide +kernel) (by decide +kernel)
set_option maxRecDepth 20000 in
theorem gX1_tryWhole_X8_step : GoodIn wsX1_tryWhole (wsV RX1 165 RX8 yX8_step wsX8_step) := goodIn_app (goodIn_of _ (by decide +kernel)) ggX1_tryWhole_X8_step
set_option maxRecDepth 20000 in
theorem ggX1_tryWhole_X8_letters : GoodIn wsX1_tryWhole wsX8_letters := goodIn_r _ [114, 18, 152, 153, 154, 155, 156, 157] (by decide +kernel) (by decide +kernel)
set_option maxRecDepth 20000 in
theorem gX1_tryWhole_X8_letters : GoodIn wsX1_tryWhole (wsV RX1 169 RX8 yX8_letters wsX8_letters) := goodIn_app (goodIn_of _ (by decide +kernel)) ggX1_tryWhole_X8_letters
set_option maxRecDepth 20000 in
theorem ggX1_tryWhole_X8_sumWith : GoodIn wsX1_tryWhole wsX8_sumWith := goodIn_r _ [118, 17, 34, 16, 86, 87, 88, 89, 90, 91, 92, 93, 94, 95, 96, 97, 98, 99, 100, 101, 102, 103, 104, 105, 106, 107, 152, 153, 154, 155, 156, 157, 166, 167, 168] (by decide +kernel) (by decide +kernel)
set_option maxRecDepth 20000 in
theorem gX1_tryWhole_X8_sumWith : GoodIn wsX1_tryWhole (wsV RX1 172 RX8 yX8_sumWith wsX8_sumWith) := goodIn_app (goodIn_of _ (by decide +kernel)) ggX1_tryWhole_X8_sumWith
set_option maxRecDepth 20000 in
theorem ggX1_tryWhole_X1_keep : GoodIn wsX1_tryWhole wsX1_keep := goodIn_r _ [123, 124, 125, 126, 127, 37, 128, 129, 130, 131, 132, 133, 134, 135, 136, 137, 138, 139, 140, 141, 142, 143, 144, 145, 146, 147, 148, 149, 150, 151] (by decide +kernel) (by decide +kernel)
set_option maxRecDepth 20000 in
theorem gX1_tryWhole_X1_keep : GoodIn wsX1_tryWhole (wsV RX1 175 RX1 yX1_keep wsX1_keep) := goodIn_app (goodIn_of _ (by decide +kernel)) ggX1_tryWhole_X1_keep
theorem dX1_tryWhole_0 : decode cX1_tryWhole 0 = .ok (.aload_n 0, 1) := by decide +kernel
theorem dX1_tryWhole_1 : decode cX1_tryWhole 1 = .ok (.getfield 62, 3) := by decide +kernel
theorem dX1_tryWhole_4 : decode cX1_tryWhole 4 = .ok (.aload_n 0, 1) := by decide +kernel
theorem dX1_tryWhole_5 : decode cX1_tryWhole 5 = .ok (.getfield 59, 3) := by decide +kernel
theorem dX1_tryWhole_8 : decode cX1_tryWhole 8 = .ok (.invokevirtual 120, 3) := by decide +kernel
theorem dX1_tryWhole_11 : decode cX1_tryWhole 11 = .ok (.iconst 0, 1) := by decide +kernel
theorem dX1_tryWhole_12 : decode cX1_tryWhole 12 = .ok (.istore_n 3, 1) := by decide +kernel
theorem dX1_tryWhole_13 : decode cX1_tryWhole 13 = .ok (.iload_n 3, 1) := by decide +kernel
theorem dX1_tryWhole_14 : decode cX1_tryWhole 14 = .ok (.sipush 800, 3) := by decide +kernel
theorem dX1_tryWhole_17 : decode cX1_tryWhole 17 = .ok (.if_icmp .ge 49, 3) := by decide +kernel
theorem dX1_tryWhole_20 : decode cX1_tryWhole 20 = .ok (.aload_n 0, 1) := by decide +kernel
theorem dX1_tryWhole_21 : decode cX1_tryWhole 21 = .ok (.getfield 62, 3) := by decide +kernel
theorem dX1_tryWhole_24 : decode cX1_tryWhole 24 = .ok (.invokevirtual 162, 3) := by decide +kernel
theorem dX1_tryWhole_27 : decode cX1_tryWhole 27 = .ok (.aload_n 0, 1) := by decide +kernel
theorem dX1_tryWhole_28 : decode cX1_tryWhole 28 = .ok (.getfield 85, 3) := by decide +kernel
theorem dX1_tryWhole_31 : decode cX1_tryWhole 31 = .ok (.if_icmp .gt 35, 3) := by decide +kernel
theorem dX1_tryWhole_34 : decode cX1_tryWhole 34 = .ok (.aload_n 0, 1) := by decide +kernel
theorem dX1_tryWhole_35 : decode cX1_tryWhole 35 = .ok (.getfield 62, 3) := by decide +kernel
theorem dX1_tryWhole_38 : decode cX1_tryWhole 38 = .ok (.aload_n 0, 1) := by decide +kernel
theorem dX1_tryWhole_39 : decode cX1_tryWhole 39 = .ok (.getfield 76, 3) := by decide +kernel
theorem dX1_tryWhole_42 : decode cX1_tryWhole 42 = .ok (.aload_n 0, 1) := by decide +kernel
theorem dX1_tryWhole_43 : decode cX1_tryWhole 43 = .ok (.getfield 16, 3) := by decide +kernel
theorem dX1_tryWhole_46 : decode cX1_tryWhole 46 = .ok (.aload_n 0, 1) := by decide +kernel
theorem dX1_tryWhole_47 : decode cX1_tryWhole 47 = .ok (.getfield 16, 3) := by decide +kernel
theorem dX1_tryWhole_50 : decode cX1_tryWhole 50 = .ok (.invokevirtual 91, 3) := by decide +kernel
theorem dX1_tryWhole_53 : decode cX1_tryWhole 53 = .ok (.invokevirtual 165, 3) := by decide +kernel
theorem dX1_tryWhole_56 : decode cX1_tryWhole 56 = .ok (.ifCond .ne 4, 3) := by decide +kernel
theorem dX1_tryWhole_59 : decode cX1_tryWhole 59 = .ok (.return_, 1) := by decide +kernel
theorem dX1_tryWhole_60 : decode cX1_tryWhole 60 = .ok (.iinc 3 1, 3) := by decide +kernel
theorem dX1_tryWhole_63 : decode cX1_tryWhole 63 = .ok (.goto (-50), 3) := by decide +kernel
theorem dX1_tryWhole_66 : decode cX1_tryWhole 66 = .ok (.aload_n 0, 1) := by decide +kernel
theorem dX1_tryWhole_67 : decode cX1_tryWhole 67 = .ok (.getfield 62, 3) := by decide +kernel
theorem dX1_tryWhole_70 : decode cX1_tryWhole 70 = .ok (.invokevirtual 162, 3) := by decide +kernel
theorem dX1_tryWhole_73 : decode cX1_tryWhole 73 = .ok (.istore_n 3, 1) := by decide +kernel
theorem dX1_tryWhole_74 : decode cX1_tryWhole 74 = .ok (.iload_n 3, 1) := by decide +kernel
theorem dX1_tryWhole_75 : decode cX1_tryWhole 75 = .ok (.aload_n 0, 1) := by decide +kernel
theorem dX1_tryWhole_76 : decode cX1_tryWhole 76 = .ok (.getfield 85, 3) := by decide +kernel
theorem dX1_tryWhole_79 : decode cX1_tryWhole 79 = .ok (.if_icmp .le 20, 3) := by decide +kernel
theorem dX1_tryWhole_82 : decode cX1_tryWhole 82 = .ok (.iload_n 3, 1) := by decide +kernel
theorem dX1_tryWhole_83 : decode cX1_tryWhole 83 = .ok (.sipush 800, 3) := by decide +kernel
theorem dX1_tryWhole_86 : decode cX1_tryWhole 86 = .ok (.if_icmp .gt 13, 3) := by decide +kernel
theorem dX1_tryWhole_89 : decode cX1_tryWhole 89 = .ok (.aload_n 0, 1) := by decide +kernel
theorem dX1_tryWhole_90 : decode cX1_tryWhole 90 = .ok (.getfield 27, 3) := by decide +kernel
theorem dX1_tryWhole_93 : decode cX1_tryWhole 93 = .ok (.iload_n 3, 1) := by decide +kernel
theorem dX1_tryWhole_94 : decode cX1_tryWhole 94 = .ok (.iaload, 1) := by decide +kernel
theorem dX1_tryWhole_95 : decode cX1_tryWhole 95 = .ok (.iconst (-1), 1) := by decide +kernel
theorem dX1_tryWhole_96 : decode cX1_tryWhole 96 = .ok (.if_icmp .ne 4, 3) := by decide +kernel
theorem dX1_tryWhole_99 : decode cX1_tryWhole 99 = .ok (.return_, 1) := by decide +kernel
theorem dX1_tryWhole_100 : decode cX1_tryWhole 100 = .ok (.aload_n 0, 1) := by decide +kernel
theorem dX1_tryWhole_101 : decode cX1_tryWhole 101 = .ok (.getfield 62, 3) := by decide +kernel
theorem dX1_tryWhole_104 : decode cX1_tryWhole 104 = .ok (.invokevirtual 169, 3) := by decide +kernel
theorem dX1_tryWhole_107 : decode cX1_tryWhole 107 = .ok (.aload_n 0, 1) := by decide +kernel
theorem dX1_tryWhole_108 : decode cX1_tryWhole 108 = .ok (.getfield 27, 3) := by decide +kernel
theorem dX1_tryWhole_111 : decode cX1_tryWhole 111 = .ok (.iload_n 3, 1) := by decide +kernel
theorem dX1_tryWhole_112 : decode cX1_tryWhole 112 = .ok (.iaload, 1) := by decide +kernel
theorem dX1_tryWhole_113 : decode cX1_tryWhole 113 = .ok (.iadd, 1) := by decide +kernel
theorem dX1_tryWhole_114 : decode cX1_tryWhole 114 = .ok (.istore 4, 2) := by decide +kernel
theorem dX1_tryWhole_116 : decode cX1_tryWhole 116 = .ok (.iload 4, 2) := by decide +kernel
theorem dX1_tryWhole_118 : decode cX1_tryWhole 118 = .ok (.sipush 300, 3) := by decide +kernel
theorem dX1_tryWhole_121 : decode cX1_tryWhole 121 = .ok (.if_icmp .gt 41, 3) := by decide +kernel
theorem dX1_tryWhole_124 : decode cX1_tryWhole 124 = .ok (.aload_n 0, 1) := by decide +kernel
theorem dX1_tryWhole_125 : decode cX1_tryWhole 125 = .ok (.dup, 1) := by decide +kernel
theorem dX1_tryWhole_126 : decode cX1_tryWhole 126 = .ok (.getfield 69, 3) := by decide +kernel
theorem dX1_tryWhole_129 : decode cX1_tryWhole 129 = .ok (.iconst 1, 1) := by decide +kernel
theorem dX1_tryWhole_130 : decode cX1_tryWhole 130 = .ok (.iadd, 1) := by decide +kernel
theorem dX1_tryWhole_131 : decode cX1_tryWhole 131 = .ok (.putfield 69, 3) := by decide +kernel
theorem dX1_tryWhole_134 : decode cX1_tryWhole 134 = .ok (.aload_n 0, 1) := by decide +kernel
theorem dX1_tryWhole_135 : decode cX1_tryWhole 135 = .ok (.iload_n 1, 1) := by decide +kernel
theorem dX1_tryWhole_136 : decode cX1_tryWhole 136 = .ok (.iload_n 2, 1) := by decide +kernel
theorem dX1_tryWhole_137 : decode cX1_tryWhole 137 = .ok (.aload_n 0, 1) := by decide +kernel
theorem dX1_tryWhole_138 : decode cX1_tryWhole 138 = .ok (.getfield 62, 3) := by decide +kernel
theorem dX1_tryWhole_141 : decode cX1_tryWhole 141 = .ok (.aload_n 0, 1) := by decide +kernel
theorem dX1_tryWhole_142 : decode cX1_tryWhole 142 = .ok (.getfield 20, 3) := by decide +kernel
theorem dX1_tryWhole_145 : decode cX1_tryWhole 145 = .ok (.iload_n 3, 1) := by decide +kernel
theorem dX1_tryWhole_146 : decode cX1_tryWhole 146 = .ok (.iaload, 1) := by decide +kernel
theorem dX1_tryWhole_147 : decode cX1_tryWhole 147 = .ok (.invokevirtual 172, 3) := by decide +kernel
theorem dX1_tryWhole_150 : decode cX1_tryWhole 150 = .ok (.aload_n 0, 1) := by decide +kernel
theorem dX1_tryWhole_151 : decode cX1_tryWhole 151 = .ok (.getfield 24, 3) := by decide +kernel
theorem dX1_tryWhole_154 : decode cX1_tryWhole 154 = .ok (.iload_n 3, 1) := by decide +kernel
theorem dX1_tryWhole_155 : decode cX1_tryWhole 155 = .ok (.iaload, 1) := by decide +kernel
theorem dX1_tryWhole_156 : decode cX1_tryWhole 156 = .ok (.iadd, 1) := by decide +kernel
theorem dX1_tryWhole_157 : decode cX1_tryWhole 157 = .ok (.iload 4, 2) := by decide +kernel
theorem dX1_tryWhole_159 : decode cX1_tryWhole 159 = .ok (.invokevirtual 175, 3) := by decide +kernel
theorem dX1_tryWhole_162 : decode cX1_tryWhole 162 = .ok (.return_, 1) := by decide +kernel
theorem dX1_keep_0 : decode cX1_keep 0 = .ok (.aload_n 0, 1) := by decide +kernel
theorem dX1_keep_1 : decode cX1_keep 1 = .ok (.getfield 65, 3) := by decide +kernel
theorem dX1_keep_4 : decode cX1_keep 4 = .ok (.sipush 200, 3) := by decide +kernel
theorem dX1_keep_7 : decode cX1_keep 7 = .ok (.if_icmp .ne 16, 3) := by decide +kernel
theorem dX1_keep_10 : decode cX1_keep 10 = .ok (.iload_n 3, 1) := by decide +kernel
theorem dX1_keep_11 : decode cX1_keep 11 = .ok (.aload_n 0, 1) := by decide +kernel
theorem dX1_keep_12 : decode cX1_keep 12 = .ok (.getfield 36, 3) := by decide +kernel
theorem dX1_keep_15 : decode cX1_keep 15 = .ok (.sipush 199, 3) := by decide +kernel
theorem dX1_keep_18 : decode cX1_keep 18 = .ok (.iaload, 1) := by decide +kernel
theorem dX1_keep_19 : decode cX1_keep 19 = .ok (.if_icmp .lt 4, 3) := by decide +kernel
theorem dX1_keep_22 : decode cX1_keep 22 = .ok (.return_, 1) := by decide +kernel
theorem dX1_keep_23 : decode cX1_keep 23 = .ok (.aload_n 0, 1) := by decide +kernel
theorem dX1_keep_24 : decode cX1_keep 24 = .ok (.getfield 65, 3) := by decide +kernel
theorem dX1_keep_27 : decode cX1_keep 27 = .ok (.sipush 199, 3) := by decide +kernel
theorem dX1_keep_30 : decode cX1_keep 30 = .ok (.invokestatic 135, 3) := by decide +kernel
theorem dX1_keep_33 : decode cX1_keep 33 = .ok (.istore 5, 2) := by decide +kernel
theorem dX1_keep_35 : decode cX1_keep 35 = .ok (.aload_n 0, 1) := by decide +kernel
theorem dX1_keep_36 : decode cX1_keep 36 = .ok (.iload 5, 2) := by decide +kernel
theorem dX1_keep_38 : decode cX1_keep 38 = .ok (.iconst 1, 1) := by decide +kernel
theorem dX1_keep_39 : decode cX1_keep 39 = .ok (.iadd, 1) := by decide +kernel
theorem dX1_keep_40 : decode cX1_keep 40 = .ok (.putfield 65, 3) := by decide +kernel
theorem dX1_keep_43 : decode cX1_keep 43 = .ok (.iload 5, 2) := by decide +kernel
theorem dX1_keep_45 : decode cX1_keep 45 = .ok (.ifCond .le 86, 3) := by decide +kernel
theorem dX1_keep_48 : decode cX1_keep 48 = .ok (.aload_n 0, 1) := by decide +kernel
theorem dX1_keep_49 : decode cX1_keep 49 = .ok (.getfield 36, 3) := by decide +kernel
theorem dX1_keep_52 : decode cX1_keep 52 = .ok (.iload 5, 2) := by decide +kernel
theorem dX1_keep_54 : decode cX1_keep 54 = .ok (.iconst 1, 1) := by decide +kernel
theorem dX1_keep_55 : decode cX1_keep 55 = .ok (.isub, 1) := by decide +kernel
theorem dX1_keep_56 : decode cX1_keep 56 = .ok (.iaload, 1) := by decide +kernel
theorem dX1_keep_57 : decode cX1_keep 57 = .ok (.iload_n 3, 1) := by decide +kernel
theorem dX1_keep_58 : decode cX1_keep 58 = .ok (.if_icmp .le 73, 3) := by decide +kernel
theorem dX1_keep_61 : decode cX1_keep 61 = .ok (.aload_n 0, 1) := by decide +kernel
theorem dX1_keep_62 : decode cX1_keep 62 = .ok (.getfield 30, 3) := by decide +kernel
theorem dX1_keep_65 : decode cX1_keep 65 = .ok (.iload 5, 2) := by decide +kernel
theorem dX1_keep_67 : decode cX1_keep 67 = .ok (.aload_n 0, 1) := by decide +kernel
theorem dX1_keep_68 : decode cX1_keep 68 = .ok (.getfield 30, 3) := by decide +kernel
theorem dX1_keep_71 : decode cX1_keep 71 = .ok (.iload 5, 2) := by decide +kernel
theorem dX1_keep_73 : decode cX1_keep 73 = .ok (.iconst 1, 1) := by decide +kernel
theorem dX1_keep_74 : decode cX1_keep 74 = .ok (.isub, 1) := by decide +kernel
theorem dX1_keep_75 : decode cX1_keep 75 = .ok (.iaload, 1) := by decide +kernel
theorem dX1_keep_76 : decode cX1_keep 76 = .ok (.iastore, 1) := by decide +kernel
theorem dX1_keep_77 : decode cX1_keep 77 = .ok (.aload_n 0, 1) := by decide +kernel
theorem dX1_keep_78 : decode cX1_keep 78 = .ok (.getfield 33, 3) := by decide +kernel
theorem dX1_keep_81 : decode cX1_keep 81 = .ok (.iload 5, 2) := by decide +kernel
theorem dX1_keep_83 : decode cX1_keep 83 = .ok (.aload_n 0, 1) := by decide +kernel
theorem dX1_keep_84 : decode cX1_keep 84 = .ok (.getfield 33, 3) := by decide +kernel
theorem dX1_keep_87 : decode cX1_keep 87 = .ok (.iload 5, 2) := by decide +kernel
theorem dX1_keep_89 : decode cX1_keep 89 = .ok (.iconst 1, 1) := by decide +kernel
theorem dX1_keep_90 : decode cX1_keep 90 = .ok (.isub, 1) := by decide +kernel
theorem dX1_keep_91 : decode cX1_keep 91 = .ok (.iaload, 1) := by decide +kernel
theorem dX1_keep_92 : decode cX1_keep 92 = .ok (.iastore, 1) := by decide +kernel
theorem dX1_keep_93 : decode cX1_keep 93 = .ok (.aload_n 0, 1) := by decide +kernel
theorem dX1_keep_94 : decode cX1_keep 94 = .ok (.getfield 36, 3) := by decide +kernel
theorem dX1_keep_97 : decode cX1_keep 97 = .ok (.iload 5, 2) := by decide +kernel
theorem dX1_keep_99 : decode cX1_keep 99 = .ok (.aload_n 0, 1) := by decide +kernel
theorem dX1_keep_100 : decode cX1_keep 100 = .ok (.getfield 36, 3) := by decide +kernel
theorem dX1_keep_103 : decode cX1_keep 103 = .ok (.iload 5, 2) := by decide +kernel
theorem dX1_keep_105 : decode cX1_keep 105 = .ok (.iconst 1, 1) := by decide +kernel
theorem dX1_keep_106 : decode cX1_keep 106 = .ok (.isub, 1) := by decide +kernel
theorem dX1_keep_107 : decode cX1_keep 107 = .ok (.iaload, 1) := by decide +kernel
theorem dX1_keep_108 : decode cX1_keep 108 = .ok (.iastore, 1) := by decide +kernel
theorem dX1_keep_109 : decode cX1_keep 109 = .ok (.aload_n 0, 1) := by decide +kernel
theorem dX1_keep_110 : decode cX1_keep 110 = .ok (.getfield 39, 3) := by decide +kernel
theorem dX1_keep_113 : decode cX1_keep 113 = .ok (.iload 5, 2) := by decide +kernel
theorem dX1_keep_115 : decode cX1_keep 115 = .ok (.aload_n 0, 1) := by decide +kernel
theorem dX1_keep_116 : decode cX1_keep 116 = .ok (.getfield 39, 3) := by decide +kernel
theorem dX1_keep_119 : decode cX1_keep 119 = .ok (.iload 5, 2) := by decide +kernel
theorem dX1_keep_121 : decode cX1_keep 121 = .ok (.iconst 1, 1) := by decide +kernel
theorem dX1_keep_122 : decode cX1_keep 122 = .ok (.isub, 1) := by decide +kernel
theorem dX1_keep_123 : decode cX1_keep 123 = .ok (.iaload, 1) := by decide +kernel
theorem dX1_keep_124 : decode cX1_keep 124 = .ok (.iastore, 1) := by decide +kernel
theorem dX1_keep_125 : decode cX1_keep 125 = .ok (.iinc 5 (-1), 3) := by decide +kernel
theorem dX1_keep_128 : decode cX1_keep 128 = .ok (.goto (-85), 3) := by decide +kernel
theorem dX1_keep_131 : decode cX1_keep 131 = .ok (.aload_n 0, 1) := by decide +kernel
theorem dX1_keep_132 : decode cX1_keep 132 = .ok (.getfield 30, 3) := by decide +kernel
theorem dX1_keep_135 : decode cX1_keep 135 = .ok (.iload 5, 2) := by decide +kernel
theorem dX1_keep_137 : decode cX1_keep 137 = .ok (.iload_n 1, 1) := by decide +kernel
theorem dX1_keep_138 : decode cX1_keep 138 = .ok (.iconst (-1), 1) := by decide +kernel
theorem dX1_keep_139 : decode cX1_keep 139 = .ok (.if_icmp .ne 7, 3) := by decide +kernel
theorem dX1_keep_142 : decode cX1_keep 142 = .ok (.iload_n 2, 1) := by decide +kernel
theorem dX1_keep_143 : decode cX1_keep 143 = .ok (.goto 4, 3) := by decide +kernel
theorem dX1_keep_146 : decode cX1_keep 146 = .ok (.iload_n 1, 1) := by decide +kernel
theorem dX1_keep_147 : decode cX1_keep 147 = .ok (.iastore, 1) := by decide +kernel
theorem dX1_keep_148 : decode cX1_keep 148 = .ok (.aload_n 0, 1) := by decide +kernel
theorem dX1_keep_149 : decode cX1_keep 149 = .ok (.getfield 33, 3) := by decide +kernel
theorem dX1_keep_152 : decode cX1_keep 152 = .ok (.iload 5, 2) := by decide +kernel
theorem dX1_keep_154 : decode cX1_keep 154 = .ok (.iload_n 1, 1) := by decide +kernel
theorem dX1_keep_155 : decode cX1_keep 155 = .ok (.iconst (-1), 1) := by decide +kernel
theorem dX1_keep_156 : decode cX1_keep 156 = .ok (.if_icmp .ne 7, 3) := by decide +kernel
theorem dX1_keep_159 : decode cX1_keep 159 = .ok (.iconst (-1), 1) := by decide +kernel
theorem dX1_keep_160 : decode cX1_keep 160 = .ok (.goto 4, 3) := by decide +kernel
theorem dX1_keep_163 : decode cX1_keep 163 = .ok (.iload_n 2, 1) := by decide +kernel
theorem dX1_keep_164 : decode cX1_keep 164 = .ok (.iastore, 1) := by decide +kernel
theorem dX1_keep_165 : decode cX1_keep 165 = .ok (.aload_n 0, 1) := by decide +kernel
theorem dX1_keep_166 : decode cX1_keep 166 = .ok (.getfield 36, 3) := by decide +kernel
theorem dX1_keep_169 : decode cX1_keep 169 = .ok (.iload 5, 2) := by decide +kernel
theorem dX1_keep_171 : decode cX1_keep 171 = .ok (.iload_n 3, 1) := by decide +kernel
theorem dX1_keep_172 : decode cX1_keep 172 = .ok (.iastore, 1) := by decide +kernel
theorem dX1_keep_173 : decode cX1_keep 173 = .ok (.aload_n 0, 1) := by decide +kernel
theorem dX1_keep_174 : decode cX1_keep 174 = .ok (.getfield 39, 3) := by decide +kernel
theorem dX1_keep_177 : decode cX1_keep 177 = .ok (.iload 5, 2) := by decide +kernel
theorem dX1_keep_179 : decode cX1_keep 179 = .ok (.iload 4, 2) := by decide +kernel
theorem dX1_keep_181 : decode cX1_keep 181 = .ok (.iastore, 1) := by decide +kernel
theorem dX1_keep_182 : decode cX1_keep 182 = .ok (.return_, 1) := by decide +kernel
set_option maxRecDepth 20000 in
theorem ggX1_build_X1_layOut : GoodIn wsX1_build wsX1_layOut := goodIn_r _ [13, 3, 4, 5, 14, 15, 16, 17, 18, 19, 20, 21, 22, 23, 24, 25, 26, 27, 28, 29, 30, 31, 32, 33, 34, 35, 36, 37, 38, 39, 40, 41, 42, 43, 44, 45, 46, 47, 48, 49, 50, 51, 52, 53, 54, 55, 56, 57, 58, 59, 60, 61, 62, 63, 64, 65, 66, 67, 121, 122, 123, 124, 125, 126, 127, 128, 129, 130, 131, 132, 133, 134, 135, 136, 137, 138, 139, 140, 141, 142, 143, 144, 145, 146, 147, 148] (by decide +kernel) (by decide +kernel)
set_option maxRecDepth 20000 in
theorem gX1_build_X1_layOut : GoodIn wsX1_build (wsV RX1 179 RX1 yX1_layOut wsX1_layOut) := goodIn_app (goodIn_of _ (by decide +kernel)) ggX1_build_X1_layOut
set_option maxRecDepth 20000 in
theorem ggX1_build_X5_set : GoodIn wsX1_build wsX5_set := goodIn_r _ [71, 21, 30, 141, 142] (by decide +kernel) (by decide +kernel)
set_option maxRecDepth 20000 in
theorem gX1_build_X5_set : GoodIn wsX1_build (wsV RX1 131 RX5 yX5_set wsX5_set) := goodIn_app (goodIn_of _ (by decide +kernel)) ggX1_build_X5_set
set_option maxRecDepth 20000 in
theorem ggX1_build_X7_readExactly : GoodIn wsX1_build wsX7_readExactly := goodIn_r _ [76, 77, 78, 79, 80, 81, 82, 83, 17, 18, 19, 20, 21, 84, 23, 24, 25, 85, 86, 87, 38, 88, 89, 27, 28, 29, 30, 90, 91, 92, 93, 50, 51, 52, 53, 54, 55, 94, 95, 96, 59, 97, 98, 99, 100, 101, 102, 103, 104, 105, 106, 107, 108, 109, 110, 111, 112, 113, 44, 45, 46, 114, 115, 116, 117, 32, 33, 34, 118, 119, 120, 149, 150, 151, 141, 142, 143, 144, 145, 146, 147, 148] (by decide +kernel) (by decide +kernel)
set_option maxRecDepth 20000 in
theorem gX1_build_X7_readExactly : GoodIn wsX1_build (wsV RX1 183 RX7 yX7_readExactly wsX7_readExactly) := goodIn_app (goodIn_of _ (by decide +kernel)) ggX1_build_X7_readExactly
theorem dX1_build_0 : decode cX1_build 0 = .ok (.iload_n 1, 1) := by decide +kernel
theorem dX1_build_1 : decode cX1_build 1 = .ok (.ifCond .lt 24, 3) := by decide +kernel
theorem dX1_build_4 : decode cX1_build 4 = .ok (.iload_n 1, 1) := by decide +kernel
theorem dX1_build_5 : decode cX1_build 5 = .ok (.aload_n 0, 1) := by decide +kernel
theorem dX1_build_6 : decode cX1_build 6 = .ok (.getfield 65, 3) := by decide +kernel
theorem dX1_build_9 : decode cX1_build 9 = .ok (.if_icmp .ge 16, 3) := by decide +kernel
theorem dX1_build_12 : decode cX1_build 12 = .ok (.aload_n 0, 1) := by decide +kernel
theorem dX1_build_13 : decode cX1_build 13 = .ok (.aload_n 0, 1) := by decide +kernel
theorem dX1_build_14 : decode cX1_build 14 = .ok (.getfield 79, 3) := by decide +kernel
theorem dX1_build_17 : decode cX1_build 17 = .ok (.aload_n 2, 1) := by decide +kernel
theorem dX1_build_18 : decode cX1_build 18 = .ok (.invokevirtual 179, 3) := by decide +kernel
theorem dX1_build_21 : decode cX1_build 21 = .ok (.iconst (-1), 1) := by decide +kernel
theorem dX1_build_22 : decode cX1_build 22 = .ok (.if_icmp .eq 5, 3) := by decide +kernel
theorem dX1_build_25 : decode cX1_build 25 = .ok (.iconst 0, 1) := by decide +kernel
theorem dX1_build_26 : decode cX1_build 26 = .ok (.ireturn, 1) := by decide +kernel
theorem dX1_build_27 : decode cX1_build 27 = .ok (.aload_n 0, 1) := by decide +kernel
theorem dX1_build_28 : decode cX1_build 28 = .ok (.getfield 16, 3) := by decide +kernel
theorem dX1_build_31 : decode cX1_build 31 = .ok (.aload_n 0, 1) := by decide +kernel
theorem dX1_build_32 : decode cX1_build 32 = .ok (.getfield 82, 3) := by decide +kernel
theorem dX1_build_35 : decode cX1_build 35 = .ok (.iconst (-1), 1) := by decide +kernel
theorem dX1_build_36 : decode cX1_build 36 = .ok (.if_icmp .ne 10, 3) := by decide +kernel
theorem dX1_build_39 : decode cX1_build 39 = .ok (.aload_n 0, 1) := by decide +kernel
theorem dX1_build_40 : decode cX1_build 40 = .ok (.getfield 85, 3) := by decide +kernel
theorem dX1_build_43 : decode cX1_build 43 = .ok (.goto 7, 3) := by decide +kernel
theorem dX1_build_46 : decode cX1_build 46 = .ok (.aload_n 0, 1) := by decide +kernel
theorem dX1_build_47 : decode cX1_build 47 = .ok (.getfield 82, 3) := by decide +kernel
theorem dX1_build_50 : decode cX1_build 50 = .ok (.aload_n 0, 1) := by decide +kernel
theorem dX1_build_51 : decode cX1_build 51 = .ok (.getfield 30, 3) := by decide +kernel
theorem dX1_build_54 : decode cX1_build 54 = .ok (.iload_n 1, 1) := by decide +kernel
theorem dX1_build_55 : decode cX1_build 55 = .ok (.iaload, 1) := by decide +kernel
theorem dX1_build_56 : decode cX1_build 56 = .ok (.invokevirtual 131, 3) := by decide +kernel
theorem dX1_build_59 : decode cX1_build 59 = .ok (.aload_n 0, 1) := by decide +kernel
theorem dX1_build_60 : decode cX1_build 60 = .ok (.getfield 82, 3) := by decide +kernel
theorem dX1_build_63 : decode cX1_build 63 = .ok (.iconst (-1), 1) := by decide +kernel
theorem dX1_build_64 : decode cX1_build 64 = .ok (.if_icmp .eq 20, 3) := by decide +kernel
theorem dX1_build_67 : decode cX1_build 67 = .ok (.aload_n 0, 1) := by decide +kernel
theorem dX1_build_68 : decode cX1_build 68 = .ok (.getfield 16, 3) := by decide +kernel
theorem dX1_build_71 : decode cX1_build 71 = .ok (.aload_n 0, 1) := by decide +kernel
theorem dX1_build_72 : decode cX1_build 72 = .ok (.getfield 85, 3) := by decide +kernel
theorem dX1_build_75 : decode cX1_build 75 = .ok (.aload_n 0, 1) := by decide +kernel
theorem dX1_build_76 : decode cX1_build 76 = .ok (.getfield 33, 3) := by decide +kernel
theorem dX1_build_79 : decode cX1_build 79 = .ok (.iload_n 1, 1) := by decide +kernel
theorem dX1_build_80 : decode cX1_build 80 = .ok (.iaload, 1) := by decide +kernel
theorem dX1_build_81 : decode cX1_build 81 = .ok (.invokevirtual 131, 3) := by decide +kernel
theorem dX1_build_84 : decode cX1_build 84 = .ok (.aload_n 3, 1) := by decide +kernel
theorem dX1_build_85 : decode cX1_build 85 = .ok (.aload_n 0, 1) := by decide +kernel
theorem dX1_build_86 : decode cX1_build 86 = .ok (.getfield 76, 3) := by decide +kernel
theorem dX1_build_89 : decode cX1_build 89 = .ok (.aload_n 0, 1) := by decide +kernel
theorem dX1_build_90 : decode cX1_build 90 = .ok (.getfield 16, 3) := by decide +kernel
theorem dX1_build_93 : decode cX1_build 93 = .ok (.aload 4, 2) := by decide +kernel
theorem dX1_build_95 : decode cX1_build 95 = .ok (.invokevirtual 183, 3) := by decide +kernel
theorem dX1_build_98 : decode cX1_build 98 = .ok (.ireturn, 1) := by decide +kernel
set_option maxRecDepth 20000 in
theorem ggX11_init_X2_init : GoodIn wsX11_init wsX2_init := goodIn_r _ [44, 45, 2, 3, 46, 47, 48, 49, 50, 51, 52, 53, 54, 55, 56, 57, 58, 59, 60, 61, 62, 63, 259, 260, 261, 262, 185, 186] (by decide +kernel) (by decide +kernel)
set_option maxRecDepth 20000 in
theorem gX11_init_X2_init_n9 : GoodIn wsX11_init (wsX2_init) := ggX11_init_X2_init
set_option maxRecDepth 20000 in
theorem ggX11_init_X7_init : GoodIn wsX11_init wsX7_init := goodIn_r _ [66, 67, 2, 3, 68, 17, 18, 69, 70, 71, 72, 73, 74, 75, 76, 77, 78, 79, 55, 80, 81, 197, 198, 187, 188, 189] (by decide +kernel) (by decide +kernel)
set_option maxRecDepth 20000 in
theorem gX11_init_X7_init : GoodIn wsX11_init (wsX7_init) := ggX11_init_X7_init
set_option maxRecDepth 20000 in
theorem ggX11_init_X4_init : GoodIn wsX11_init wsX4_init := goodIn_r _ [84, 85, 2, 3, 55, 86, 87, 88, 89, 190, 191, 192, 193] (by decide +kernel) (by decide +kernel)
set_option maxRecDepth 20000 in
theorem gX11_init_X4_init : GoodIn wsX11_init (wsX4_init) := ggX11_init_X4_init
set_option maxRecDepth 20000 in
theorem ggX11_init_X3_init : GoodIn wsX11_init wsX3_init := goodIn_r _ [92, 93, 2, 3, 55, 94, 95, 96, 97, 61, 62, 63, 194, 195, 196] (by decide +kernel) (by decide +kernel)
set_option maxRecDepth 20000 in
theorem gX11_init_X3_init : GoodIn wsX11_init (wsX3_init) := ggX11_init_X3_init
set_option maxRecDepth 20000 in
theorem ggX11_init_X5_init : GoodIn wsX11_init wsX5_init := goodIn_r _ [74, 75, 2, 3, 76, 77, 78, 79, 55, 80, 81, 197, 198] (by decide +kernel) (by decide +kernel)
set_option maxRecDepth 20000 in
theorem gX11_init_X5_init : GoodIn wsX11_init (wsX5_init) := ggX11_init_X5_init
set_option maxRecDepth 20000 in
theorem ggX11_init_X0_init : GoodIn wsX11_init wsX0_init := goodIn_r _ [101, 102, 2, 3, 55, 103, 104, 105, 106, 211, 212, 213, 214] (by decide +kernel) (by decide +kernel)
set_option maxRecDepth 20000 in
theorem gX11_init_X0_init : GoodIn wsX11_init (wsX0_init) := ggX11_init_X0_init
set_option maxRecDepth 20000 in
theorem ggX11_init_X9_init : GoodIn wsX11_init wsX9_init := goodIn_r _ [109, 110, 2, 3, 111, 17, 18, 112, 113, 114, 55, 115, 116, 117, 118, 119, 120, 121, 122, 123, 124, 73, 74, 75, 76, 77, 78, 79, 80, 81, 125, 61, 62, 63, 197, 198, 215, 216, 217, 218, 219, 220, 221, 222, 223, 224, 225, 226] (by decide +kernel) (by decide +kernel)
set_option maxRecDepth 20000 in
theorem gX11_init_X9_init : GoodIn wsX11_init (wsX9_init) := ggX11_init_X9_init
set_option maxRecDepth 20000 in
theorem ggX11_init_X6_init : GoodIn wsX11_init wsX6_init := goodIn_r _ [128, 129, 2, 3, 130, 17, 18, 131, 132, 133, 55, 134, 135, 136, 137, 138, 139, 140, 141, 142, 143, 144, 145, 146, 73, 74, 75, 76, 77, 78, 79, 80, 81, 147, 148, 149, 150, 151, 152, 153, 154, 155, 156, 197, 198, 227, 228, 229, 230, 231, 232, 233, 234, 235, 236, 237, 238, 263, 264, 265, 266, 267, 268] (by decide +kernel) (by decide +kernel)
set_option maxRecDepth 20000 in
theorem gX11_init_X6_init : GoodIn wsX11_init (wsX6_init) := ggX11_init_X6_init
set_option maxRecDepth 20000 in
theorem ggX11_init_X1_init : GoodIn wsX11_init wsX1_init := goodIn_r _ [159, 160, 2, 3, 161, 17, 18, 162, 55, 163, 164, 165, 166, 167, 168, 169, 170, 171, 172, 142, 143, 173, 174, 175, 176, 177, 178, 179, 180, 181, 182, 183, 73, 74, 75, 76, 77, 78, 79, 80, 81, 184, 148, 149, 150, 151, 152, 153, 154, 155, 156, 197, 198, 239, 240, 241, 242, 243, 244, 245, 246, 247, 248, 249, 250, 251, 252, 253, 254, 255, 256, 257, 258, 263, 264, 265, 266, 267, 268] (by decide +kernel) (by decide +kernel)
set_option maxRecDepth 20000 in
theorem gX11_init_X1_init : GoodIn wsX11_init (wsX1_init) := ggX11_init_X1_init
theorem dX11_init_0 : decode cX11_init 0 = .ok (.aload_n 0, 1) := by decide +kernel
theorem dX11_init_1 : decode cX11_init 1 = .ok (.invokespecial 1, 3) := by decide +kernel
theorem dX11_init_4 : decode cX11_init 4 = .ok (.new 7, 3) := by decide +kernel
theorem dX11_init_7 : decode cX11_init 7 = .ok (.dup, 1) := by decide +kernel
theorem dX11_init_8 : decode cX11_init 8 = .ok (.invokespecial 9, 3) := by decide +kernel
theorem dX11_init_11 : decode cX11_init 11 = .ok (.astore_n 1, 1) := by decide +kernel
theorem dX11_init_12 : decode cX11_init 12 = .ok (.new 10, 3) := by decide +kernel
theorem dX11_init_15 : decode cX11_init 15 = .ok (.dup, 1) := by decide +kernel
theorem dX11_init_16 : decode cX11_init 16 = .ok (.aload_n 1, 1) := by decide +kernel
theorem dX11_init_17 : decode cX11_init 17 = .ok (.invokespecial 12, 3) := by decide +kernel
theorem dX11_init_20 : decode cX11_init 20 = .ok (.astore_n 2, 1) := by decide +kernel
theorem dX11_init_21 : decode cX11_init 21 = .ok (.new 15, 3) := by decide +kernel
theorem dX11_init_24 : decode cX11_init 24 = .ok (.dup, 1) := by decide +kernel
theorem dX11_init_25 : decode cX11_init 25 = .ok (.aload_n 2, 1) := by decide +kernel
theorem dX11_init_26 : decode cX11_init 26 = .ok (.invokespecial 17, 3) := by decide +kernel
theorem dX11_init_29 : decode cX11_init 29 = .ok (.astore_n 3, 1) := by decide +kernel
theorem dX11_init_30 : decode cX11_init 30 = .ok (.new 20, 3) := by decide +kernel
theorem dX11_init_33 : decode cX11_init 33 = .ok (.dup, 1) := by decide +kernel
theorem dX11_init_34 : decode cX11_init 34 = .ok (.invokespecial 22, 3) := by decide +kernel
theorem dX11_init_37 : decode cX11_init 37 = .ok (.astore 4, 2) := by decide +kernel
theorem dX11_init_39 : decode cX11_init 39 = .ok (.aload_n 0, 1) := by decide +kernel
theorem dX11_init_40 : decode cX11_init 40 = .ok (.new 23, 3) := by decide +kernel
theorem dX11_init_43 : decode cX11_init 43 = .ok (.dup, 1) := by decide +kernel
theorem dX11_init_44 : decode cX11_init 44 = .ok (.sipush 900, 3) := by decide +kernel
theorem dX11_init_47 : decode cX11_init 47 = .ok (.invokespecial 27, 3) := by decide +kernel
theorem dX11_init_50 : decode cX11_init 50 = .ok (.putfield 30, 3) := by decide +kernel
theorem dX11_init_53 : decode cX11_init 53 = .ok (.aload_n 0, 1) := by decide +kernel
theorem dX11_init_54 : decode cX11_init 54 = .ok (.new 23, 3) := by decide +kernel
theorem dX11_init_57 : decode cX11_init 57 = .ok (.dup, 1) := by decide +kernel
theorem dX11_init_58 : decode cX11_init 58 = .ok (.sipush 300, 3) := by decide +kernel
theorem dX11_init_61 : decode cX11_init 61 = .ok (.invokespecial 27, 3) := by decide +kernel
theorem dX11_init_64 : decode cX11_init 64 = .ok (.putfield 34, 3) := by decide +kernel
theorem dX11_init_67 : decode cX11_init 67 = .ok (.aload_n 0, 1) := by decide +kernel
theorem dX11_init_68 : decode cX11_init 68 = .ok (.new 23, 3) := by decide +kernel
theorem dX11_init_71 : decode cX11_init 71 = .ok (.dup, 1) := by decide +kernel
theorem dX11_init_72 : decode cX11_init 72 = .ok (.sipush 300, 3) := by decide +kernel
theorem dX11_init_75 : decode cX11_init 75 = .ok (.invokespecial 27, 3) := by decide +kernel
theorem dX11_init_78 : decode cX11_init 78 = .ok (.putfield 37, 3) := by decide +kernel
theorem dX11_init_81 : decode cX11_init 81 = .ok (.aload_n 0, 1) := by decide +kernel
theorem dX11_init_82 : decode cX11_init 82 = .ok (.aload_n 1, 1) := by decide +kernel
theorem dX11_init_83 : decode cX11_init 83 = .ok (.putfield 40, 3) := by decide +kernel
theorem dX11_init_86 : decode cX11_init 86 = .ok (.aload_n 0, 1) := by decide +kernel
theorem dX11_init_87 : decode cX11_init 87 = .ok (.aload_n 2, 1) := by decide +kernel
theorem dX11_init_88 : decode cX11_init 88 = .ok (.putfield 44, 3) := by decide +kernel
theorem dX11_init_91 : decode cX11_init 91 = .ok (.aload_n 0, 1) := by decide +kernel
theorem dX11_init_92 : decode cX11_init 92 = .ok (.aload_n 3, 1) := by decide +kernel
theorem dX11_init_93 : decode cX11_init 93 = .ok (.putfield 48, 3) := by decide +kernel
theorem dX11_init_96 : decode cX11_init 96 = .ok (.aload_n 0, 1) := by decide +kernel
theorem dX11_init_97 : decode cX11_init 97 = .ok (.aload 4, 2) := by decide +kernel
theorem dX11_init_99 : decode cX11_init 99 = .ok (.putfield 52, 3) := by decide +kernel
theorem dX11_init_102 : decode cX11_init 102 = .ok (.aload_n 0, 1) := by decide +kernel
theorem dX11_init_103 : decode cX11_init 103 = .ok (.new 56, 3) := by decide +kernel
theorem dX11_init_106 : decode cX11_init 106 = .ok (.dup, 1) := by decide +kernel
theorem dX11_init_107 : decode cX11_init 107 = .ok (.invokespecial 58, 3) := by decide +kernel
theorem dX11_init_110 : decode cX11_init 110 = .ok (.putfield 59, 3) := by decide +kernel
theorem dX11_init_113 : decode cX11_init 113 = .ok (.aload_n 0, 1) := by decide +kernel
theorem dX11_init_114 : decode cX11_init 114 = .ok (.new 63, 3) := by decide +kernel
theorem dX11_init_117 : decode cX11_init 117 = .ok (.dup, 1) := by decide +kernel
theorem dX11_init_118 : decode cX11_init 118 = .ok (.aload_n 3, 1) := by decide +kernel
theorem dX11_init_119 : decode cX11_init 119 = .ok (.aload 4, 2) := by decide +kernel
theorem dX11_init_121 : decode cX11_init 121 = .ok (.invokespecial 65, 3) := by decide +kernel
theorem dX11_init_124 : decode cX11_init 124 = .ok (.putfield 68, 3) := by decide +kernel
theorem dX11_init_127 : decode cX11_init 127 = .ok (.aload_n 0, 1) := by decide +kernel
theorem dX11_init_128 : decode cX11_init 128 = .ok (.new 72, 3) := by decide +kernel
theorem dX11_init_131 : decode cX11_init 131 = .ok (.dup, 1) := by decide +kernel
theorem dX11_init_132 : decode cX11_init 132 = .ok (.aload_n 1, 1) := by decide +kernel
theorem dX11_init_133 : decode cX11_init 133 = .ok (.aload_n 3, 1) := by decide +kernel
theorem dX11_init_134 : decode cX11_init 134 = .ok (.aload 4, 2) := by decide +kernel
theorem dX11_init_136 : decode cX11_init 136 = .ok (.invokespecial 74, 3) := by decide +kernel
theorem dX11_init_139 : decode cX11_init 139 = .ok (.putfield 77, 3) := by decide +kernel
theorem dX11_init_142 : decode cX11_init 142 = .ok (.aload_n 0, 1) := by decide +kernel
theorem dX11_init_143 : decode cX11_init 143 = .ok (.new 81, 3) := by decide +kernel
theorem dX11_init_146 : decode cX11_init 146 = .ok (.dup, 1) := by decide +kernel
theorem dX11_init_147 : decode cX11_init 147 = .ok (.aload_n 1, 1) := by decide +kernel
theorem dX11_init_148 : decode cX11_init 148 = .ok (.aload 4, 2) := by decide +kernel
theorem dX11_init_150 : decode cX11_init 150 = .ok (.invokespecial 83, 3) := by decide +kernel
theorem dX11_init_153 : decode cX11_init 153 = .ok (.putfield 86, 3) := by decide +kernel
theorem dX11_init_156 : decode cX11_init 156 = .ok (.aload_n 0, 1) := by decide +kernel
theorem dX11_init_157 : decode cX11_init 157 = .ok (.iconst (-1), 1) := by decide +kernel
theorem dX11_init_158 : decode cX11_init 158 = .ok (.putfield 90, 3) := by decide +kernel
theorem dX11_init_161 : decode cX11_init 161 = .ok (.return_, 1) := by decide +kernel
set_option maxRecDepth 20000 in
theorem ggX11_feed_X5_length : GoodIn wsX11_feed wsX5_length := goodIn_r _ [6, 7, 25, 26] (by decide +kernel) (by decide +kernel)
set_option maxRecDepth 20000 in
theorem gX11_feed_X5_length : GoodIn wsX11_feed (wsV RX11 94 RX5 yX5_length wsX5_length) := goodIn_app (goodIn_of _ (by decide +kernel)) ggX11_feed_X5_length
set_option maxRecDepth 20000 in
theorem ggX11_feed_X5_add : GoodIn wsX11_feed wsX5_add := goodIn_r _ [11, 7, 12, 25, 26] (by decide +kernel) (by decide +kernel)
set_option maxRecDepth 20000 in
theorem gX11_feed_X5_add : GoodIn wsX11_feed (wsV RX11 98 RX5 yX5_add wsX5_add) := goodIn_app (goodIn_of _ (by decide +kernel)) ggX11_feed_X5_add
theorem dX11_feed_0 : decode cX11_feed 0 = .ok (.aload_n 0, 1) := by decide +kernel
theorem dX11_feed_1 : decode cX11_feed 1 = .ok (.getfield 30, 3) := by decide +kernel
theorem dX11_feed_4 : decode cX11_feed 4 = .ok (.invokevirtual 94, 3) := by decide +kernel
theorem dX11_feed_7 : decode cX11_feed 7 = .ok (.iconst 5, 1) := by decide +kernel
theorem dX11_feed_8 : decode cX11_feed 8 = .ok (.iadd, 1) := by decide +kernel
theorem dX11_feed_9 : decode cX11_feed 9 = .ok (.sipush 900, 3) := by decide +kernel
theorem dX11_feed_12 : decode cX11_feed 12 = .ok (.if_icmp .le 5, 3) := by decide +kernel
theorem dX11_feed_15 : decode cX11_feed 15 = .ok (.iconst (-1), 1) := by decide +kernel
theorem dX11_feed_16 : decode cX11_feed 16 = .ok (.ireturn, 1) := by decide +kernel
theorem dX11_feed_17 : decode cX11_feed 17 = .ok (.aload_n 0, 1) := by decide +kernel
theorem dX11_feed_18 : decode cX11_feed 18 = .ok (.getfield 30, 3) := by decide +kernel
theorem dX11_feed_21 : decode cX11_feed 21 = .ok (.iload_n 1, 1) := by decide +kernel
theorem dX11_feed_22 : decode cX11_feed 22 = .ok (.invokevirtual 98, 3) := by decide +kernel
theorem dX11_feed_25 : decode cX11_feed 25 = .ok (.pop, 1) := by decide +kernel
theorem dX11_feed_26 : decode cX11_feed 26 = .ok (.aload_n 0, 1) := by decide +kernel
theorem dX11_feed_27 : decode cX11_feed 27 = .ok (.getfield 30, 3) := by decide +kernel
theorem dX11_feed_30 : decode cX11_feed 30 = .ok (.iload_n 2, 1) := by decide +kernel
theorem dX11_feed_31 : decode cX11_feed 31 = .ok (.invokevirtual 98, 3) := by decide +kernel
theorem dX11_feed_34 : decode cX11_feed 34 = .ok (.pop, 1) := by decide +kernel
theorem dX11_feed_35 : decode cX11_feed 35 = .ok (.aload_n 0, 1) := by decide +kernel
theorem dX11_feed_36 : decode cX11_feed 36 = .ok (.getfield 30, 3) := by decide +kernel
theorem dX11_feed_39 : decode cX11_feed 39 = .ok (.iload_n 3, 1) := by decide +kernel
theorem dX11_feed_40 : decode cX11_feed 40 = .ok (.invokevirtual 98, 3) := by decide +kernel
theorem dX11_feed_43 : decode cX11_feed 43 = .ok (.pop, 1) := by decide +kernel
theorem dX11_feed_44 : decode cX11_feed 44 = .ok (.aload_n 0, 1) := by decide +kernel
theorem dX11_feed_45 : decode cX11_feed 45 = .ok (.getfield 30, 3) := by decide +kernel
theorem dX11_feed_48 : decode cX11_feed 48 = .ok (.iload 4, 2) := by decide +kernel
theorem dX11_feed_50 : decode cX11_feed 50 = .ok (.invokevirtual 98, 3) := by decide +kernel
theorem dX11_feed_53 : decode cX11_feed 53 = .ok (.pop, 1) := by decide +kernel
theorem dX11_feed_54 : decode cX11_feed 54 = .ok (.aload_n 0, 1) := by decide +kernel
theorem dX11_feed_55 : decode cX11_feed 55 = .ok (.getfield 30, 3) := by decide +kernel
theorem dX11_feed_58 : decode cX11_feed 58 = .ok (.iload 5, 2) := by decide +kernel
theorem dX11_feed_60 : decode cX11_feed 60 = .ok (.invokevirtual 98, 3) := by decide +kernel
theorem dX11_feed_63 : decode cX11_feed 63 = .ok (.pop, 1) := by decide +kernel
theorem dX11_feed_64 : decode cX11_feed 64 = .ok (.aload_n 0, 1) := by decide +kernel
theorem dX11_feed_65 : decode cX11_feed 65 = .ok (.getfield 30, 3) := by decide +kernel
theorem dX11_feed_68 : decode cX11_feed 68 = .ok (.invokevirtual 94, 3) := by decide +kernel
theorem dX11_feed_71 : decode cX11_feed 71 = .ok (.ireturn, 1) := by decide +kernel
set_option maxRecDepth 20000 in
theorem ggX11_end_X5_length : GoodIn wsX11_end wsX5_length := goodIn_r _ [6, 7, 24, 25] (by decide +kernel) (by decide +kernel)
set_option maxRecDepth 20000 in
theorem gX11_end_X5_length : GoodIn wsX11_end (wsV RX11 94 RX5 yX5_length wsX5_length) := goodIn_app (goodIn_of _ (by decide +kernel)) ggX11_end_X5_length
set_option maxRecDepth 20000 in
theorem ggX11_end_X5_cut : GoodIn wsX11_end wsX5_cut := goodIn_r _ [11, 7, 24, 25] (by decide +kernel) (by decide +kernel)
set_option maxRecDepth 20000 in
theorem gX11_end_X5_cut : GoodIn wsX11_end (wsV RX11 102 RX5 yX5_cut wsX5_cut) := goodIn_app (goodIn_of _ (by decide +kernel)) ggX11_end_X5_cut
theorem dX11_end_0 : decode cX11_end 0 = .ok (.iload_n 1, 1) := by decide +kernel
theorem dX11_end_1 : decode cX11_end 1 = .ok (.ifCond .lt 14, 3) := by decide +kernel
theorem dX11_end_4 : decode cX11_end 4 = .ok (.iload_n 1, 1) := by decide +kernel
theorem dX11_end_5 : decode cX11_end 5 = .ok (.aload_n 0, 1) := by decide +kernel
theorem dX11_end_6 : decode cX11_end 6 = .ok (.getfield 30, 3) := by decide +kernel
theorem dX11_end_9 : decode cX11_end 9 = .ok (.invokevirtual 94, 3) := by decide +kernel
theorem dX11_end_12 : decode cX11_end 12 = .ok (.if_icmp .le 5, 3) := by decide +kernel
theorem dX11_end_15 : decode cX11_end 15 = .ok (.iconst 0, 1) := by decide +kernel
theorem dX11_end_16 : decode cX11_end 16 = .ok (.ireturn, 1) := by decide +kernel
theorem dX11_end_17 : decode cX11_end 17 = .ok (.aload_n 0, 1) := by decide +kernel
theorem dX11_end_18 : decode cX11_end 18 = .ok (.getfield 30, 3) := by decide +kernel
theorem dX11_end_21 : decode cX11_end 21 = .ok (.iload_n 1, 1) := by decide +kernel
theorem dX11_end_22 : decode cX11_end 22 = .ok (.invokevirtual 102, 3) := by decide +kernel
theorem dX11_end_25 : decode cX11_end 25 = .ok (.iconst 1, 1) := by decide +kernel
theorem dX11_end_26 : decode cX11_end 26 = .ok (.ireturn, 1) := by decide +kernel
set_option maxRecDepth 20000 in
theorem ggX11_text_X5_length : GoodIn wsX11_text wsX5_length := goodIn_r _ [8, 9, 82, 83] (by decide +kernel) (by decide +kernel)
set_option maxRecDepth 20000 in
theorem gX11_text_X5_length : GoodIn wsX11_text (wsV RX11 94 RX5 yX5_length wsX5_length) := goodIn_app (goodIn_of _ (by decide +kernel)) ggX11_text_X5_length
set_option maxRecDepth 20000 in
theorem ggX11_text_X11_tapeHoldsLetters : GoodIn wsX11_text wsX11_tapeHoldsLetters := goodIn_r _ [14, 2, 1, 4, 5, 6, 7, 8, 9, 15, 16, 17, 18, 19, 20, 21, 13, 22, 23, 24, 25, 70, 71, 72, 73, 74, 75, 76, 77, 78, 79, 80, 81, 82, 83] (by decide +kernel) (by decide +kernel)
set_option maxRecDepth 20000 in
theorem gX11_text_X11_tapeHoldsLetters : GoodIn wsX11_text (wsV RX11 105 RX11 yX11_tapeHoldsLetters wsX11_tapeHoldsLetters) := goodIn_app (goodIn_of _ (by decide +kernel)) ggX11_text_X11_tapeHoldsLetters
set_option maxRecDepth 20000 in
theorem ggX11_text_X5_takeAll : GoodIn wsX11_text wsX5_takeAll := goodIn_r _ [29, 9, 30, 31, 32, 7, 33, 19, 34, 35, 36, 37, 82, 83] (by decide +kernel) (by decide +kernel)
set_option maxRecDepth 20000 in
theorem gX11_text_X5_takeAll : GoodIn wsX11_text (wsV RX11 109 RX5 yX5_takeAll wsX5_takeAll) := goodIn_app (goodIn_of _ (by decide +kernel)) ggX11_text_X5_takeAll
set_option maxRecDepth 20000 in
theorem ggX11_text_X5_cut : GoodIn wsX11_text wsX5_cut := goodIn_r _ [41, 9, 82, 83] (by decide +kernel) (by decide +kernel)
set_option maxRecDepth 20000 in
theorem gX11_text_X5_cut : GoodIn wsX11_text (wsV RX11 102 RX5 yX5_cut wsX5_cut) := goodIn_app (goodIn_of _ (by decide +kernel)) ggX11_text_X5_cut
set_option maxRecDepth 20000 in
theorem ggX11_text_X11_become : GoodIn wsX11_text wsX11_become := goodIn_r _ [45, 46, 47, 48, 49, 50, 51, 52, 53, 54, 55, 56, 57, 58, 59, 60, 61, 62, 5, 6, 7, 8, 9, 63, 16, 17, 18, 19, 26, 27, 28, 29, 30, 31, 32, 33, 34, 35, 36, 37, 64, 65, 66, 67, 68, 69, 4, 70, 71, 72, 73, 74, 75, 76, 77, 78, 79, 80, 81, 84, 85, 86, 87, 82, 83, 88, 89, 90, 91, 92, 93, 94, 95, 96, 97, 98, 99, 100, 101, 102, 103, 104, 105, 106, 107] (by decide +kernel) (by decide +kernel)
set_option maxRecDepth 20000 in
theorem gX11_text_X11_become : GoodIn wsX11_text (wsV RX11 113 RX11 yX11_become wsX11_become) := goodIn_app (goodIn_of _ (by decide +kernel)) ggX11_text_X11_become
theorem dX11_text_0 : decode cX11_text 0 = .ok (.aload_n 0, 1) := by decide +kernel
theorem dX11_text_1 : decode cX11_text 1 = .ok (.iconst (-1), 1) := by decide +kernel
theorem dX11_text_2 : decode cX11_text 2 = .ok (.putfield 90, 3) := by decide +kernel
theorem dX11_text_5 : decode cX11_text 5 = .ok (.aload_n 0, 1) := by decide +kernel
theorem dX11_text_6 : decode cX11_text 6 = .ok (.getfield 30, 3) := by decide +kernel
theorem dX11_text_9 : decode cX11_text 9 = .ok (.invokevirtual 94, 3) := by decide +kernel
theorem dX11_text_12 : decode cX11_text 12 = .ok (.sipush 300, 3) := by decide +kernel
theorem dX11_text_15 : decode cX11_text 15 = .ok (.if_icmp .gt 14, 3) := by decide +kernel
theorem dX11_text_18 : decode cX11_text 18 = .ok (.aload_n 0, 1) := by decide +kernel
theorem dX11_text_19 : decode cX11_text 19 = .ok (.invokevirtual 105, 3) := by decide +kernel
theorem dX11_text_22 : decode cX11_text 22 = .ok (.ifCond .eq 7, 3) := by decide +kernel
theorem dX11_text_25 : decode cX11_text 25 = .ok (.iconst 1, 1) := by decide +kernel
theorem dX11_text_26 : decode cX11_text 26 = .ok (.goto 4, 3) := by decide +kernel
theorem dX11_text_29 : decode cX11_text 29 = .ok (.iconst 0, 1) := by decide +kernel
theorem dX11_text_30 : decode cX11_text 30 = .ok (.istore_n 1, 1) := by decide +kernel
theorem dX11_text_31 : decode cX11_text 31 = .ok (.iload_n 1, 1) := by decide +kernel
theorem dX11_text_32 : decode cX11_text 32 = .ok (.ifCond .eq 15, 3) := by decide +kernel
theorem dX11_text_35 : decode cX11_text 35 = .ok (.aload_n 0, 1) := by decide +kernel
theorem dX11_text_36 : decode cX11_text 36 = .ok (.getfield 37, 3) := by decide +kernel
theorem dX11_text_39 : decode cX11_text 39 = .ok (.aload_n 0, 1) := by decide +kernel
theorem dX11_text_40 : decode cX11_text 40 = .ok (.getfield 30, 3) := by decide +kernel
theorem dX11_text_43 : decode cX11_text 43 = .ok (.invokevirtual 109, 3) := by decide +kernel
theorem dX11_text_46 : decode cX11_text 46 = .ok (.pop, 1) := by decide +kernel
theorem dX11_text_47 : decode cX11_text 47 = .ok (.aload_n 0, 1) := by decide +kernel
theorem dX11_text_48 : decode cX11_text 48 = .ok (.getfield 30, 3) := by decide +kernel
theorem dX11_text_51 : decode cX11_text 51 = .ok (.iconst 0, 1) := by decide +kernel
theorem dX11_text_52 : decode cX11_text 52 = .ok (.invokevirtual 102, 3) := by decide +kernel
theorem dX11_text_55 : decode cX11_text 55 = .ok (.iload_n 1, 1) := by decide +kernel
theorem dX11_text_56 : decode cX11_text 56 = .ok (.ifCond .eq 14, 3) := by decide +kernel
theorem dX11_text_59 : decode cX11_text 59 = .ok (.aload_n 0, 1) := by decide +kernel
theorem dX11_text_60 : decode cX11_text 60 = .ok (.aload_n 0, 1) := by decide +kernel
theorem dX11_text_61 : decode cX11_text 61 = .ok (.getfield 37, 3) := by decide +kernel
theorem dX11_text_64 : decode cX11_text 64 = .ok (.invokevirtual 113, 3) := by decide +kernel
theorem dX11_text_67 : decode cX11_text 67 = .ok (.goto 4, 3) := by decide +kernel
theorem dX11_text_70 : decode cX11_text 70 = .ok (.iconst (-1), 1) := by decide +kernel
theorem dX11_text_71 : decode cX11_text 71 = .ok (.ireturn, 1) := by decide +kernel
set_option maxRecDepth 20000 in
theorem ggX11_read_X2_known : GoodIn wsX11_read wsX2_known := goodIn_r _ [8] (by decide +kernel) (by decide +kernel)
set_option maxRecDepth 20000 in
theorem gX11_read_X2_known : GoodIn wsX11_read (va_wsS RX11 117 yX2_known wsX2_known) := goodIn_app (goodIn_of _ (by decide +kernel)) ggX11_read_X2_known
set_option maxRecDepth 20000 in
theorem ggX11_read_X11_tapeHoldsBytes : GoodIn wsX11_read wsX11_tapeHoldsBytes := goodIn_r _ [13, 3, 1, 14, 15, 16, 17, 18, 19, 20, 21, 22, 23, 24, 133, 134, 135, 136, 137, 138, 139, 140, 141, 142, 143, 144, 145, 146] (by decide +kernel) (by decide +kernel)
set_option maxRecDepth 20000 in
theorem gX11_read_X11_tapeHoldsBytes : GoodIn wsX11_read (wsV RX11 120 RX11 yX11_tapeHoldsBytes wsX11_tapeHoldsBytes) := goodIn_app (goodIn_of _ (by decide +kernel)) ggX11_read_X11_tapeHoldsBytes
set_option maxRecDepth 20000 in
theorem ggX11_read_X7_readExactly : GoodIn wsX11_read wsX7_readExactly := goodIn_r _ [29, 30, 31, 32, 33, 34, 35, 36, 37, 38, 17, 39, 19, 40, 15, 16, 18, 41, 42, 43, 7, 44, 45, 21, 22, 23, 24, 46, 47, 48, 49, 50, 51, 52, 53, 54, 55, 56, 57, 58, 59, 60, 61, 62, 63, 64, 65, 66, 67, 68, 12, 69, 70, 71, 72, 73, 74, 75, 76, 77, 78, 79, 80, 81, 82, 83, 84, 85, 86, 87, 88, 147, 148, 149, 145, 146, 150, 151, 152, 153, 154, 155] (by decide +kernel) (by decide +kernel)
set_option maxRecDepth 20000 in
theorem gX11_read_X7_readExactly : GoodIn wsX11_read (wsV RX11 123 RX7 yX7_readExactly wsX7_readExactly) := goodIn_app (goodIn_of _ (by decide +kernel)) ggX11_read_X7_readExactly
set_option maxRecDepth 20000 in
theorem ggX11_read_X7_fault : GoodIn wsX11_read wsX7_fault := goodIn_r _ [92, 30, 147, 148, 149] (by decide +kernel) (by decide +kernel)
set_option maxRecDepth 20000 in
theorem gX11_read_X7_fault : GoodIn wsX11_read (wsV RX11 127 RX7 yX7_fault wsX7_fault) := goodIn_app (goodIn_of _ (by decide +kernel)) ggX11_read_X7_fault
set_option maxRecDepth 20000 in
theorem ggX11_read_X5_cut : GoodIn wsX11_read wsX5_cut := goodIn_r _ [39, 19, 145, 146] (by decide +kernel) (by decide +kernel)
set_option maxRecDepth 20000 in
theorem gX11_read_X5_cut : GoodIn wsX11_read (wsV RX11 102 RX5 yX5_cut wsX5_cut) := goodIn_app (goodIn_of _ (by decide +kernel)) ggX11_read_X5_cut
set_option maxRecDepth 20000 in
theorem ggX11_read_X11_become : GoodIn wsX11_read wsX11_become := goodIn_r _ [97, 98, 99, 100, 101, 102, 103, 104, 105, 106, 107, 34, 108, 109, 110, 111, 112, 113, 15, 16, 17, 18, 19, 114, 21, 22, 23, 24, 115, 116, 117, 118, 119, 120, 121, 122, 123, 124, 125, 126, 127, 128, 129, 130, 131, 132, 14, 133, 134, 135, 136, 137, 138, 139, 140, 141, 142, 143, 144, 156, 157, 158, 159, 145, 146, 160, 161, 162, 163, 164, 165, 166, 167, 168, 169, 170, 171, 172, 173, 174, 175, 176, 177, 178, 179] (by decide +kernel) (by decide +kernel)
set_option maxRecDepth 20000 in
theorem gX11_read_X11_become : GoodIn wsX11_read (wsV RX11 113 RX11 yX11_become wsX11_become) := goodIn_app (goodIn_of _ (by decide +kernel)) ggX11_read_X11_become
theorem dX11_read_0 : decode cX11_read 0 = .ok (.aload_n 0, 1) := by decide +kernel
theorem dX11_read_1 : decode cX11_read 1 = .ok (.iconst (-1), 1) := by decide +kernel
theorem dX11_read_2 : decode cX11_read 2 = .ok (.putfield 90, 3) := by decide +kernel
theorem dX11_read_5 : decode cX11_read 5 = .ok (.iload_n 1, 1) := by decide +kernel
theorem dX11_read_6 : decode cX11_read 6 = .ok (.invokestatic 117, 3) := by decide +kernel
theorem dX11_read_9 : decode cX11_read 9 = .ok (.ifCond .eq 14, 3) := by decide +kernel
theorem dX11_read_12 : decode cX11_read 12 = .ok (.aload_n 0, 1) := by decide +kernel
theorem dX11_read_13 : decode cX11_read 13 = .ok (.invokevirtual 120, 3) := by decide +kernel
theorem dX11_read_16 : decode cX11_read 16 = .ok (.ifCond .eq 7, 3) := by decide +kernel
theorem dX11_read_19 : decode cX11_read 19 = .ok (.iconst 1, 1) := by decide +kernel
theorem dX11_read_20 : decode cX11_read 20 = .ok (.goto 4, 3) := by decide +kernel
theorem dX11_read_23 : decode cX11_read 23 = .ok (.iconst 0, 1) := by decide +kernel
theorem dX11_read_24 : decode cX11_read 24 = .ok (.istore_n 2, 1) := by decide +kernel
theorem dX11_read_25 : decode cX11_read 25 = .ok (.iload_n 2, 1) := by decide +kernel
theorem dX11_read_26 : decode cX11_read 26 = .ok (.ifCond .eq 31, 3) := by decide +kernel
theorem dX11_read_29 : decode cX11_read 29 = .ok (.aload_n 0, 1) := by decide +kernel
theorem dX11_read_30 : decode cX11_read 30 = .ok (.getfield 44, 3) := by decide +kernel
theorem dX11_read_33 : decode cX11_read 33 = .ok (.iload_n 1, 1) := by decide +kernel
theorem dX11_read_34 : decode cX11_read 34 = .ok (.aload_n 0, 1) := by decide +kernel
theorem dX11_read_35 : decode cX11_read 35 = .ok (.getfield 30, 3) := by decide +kernel
theorem dX11_read_38 : decode cX11_read 38 = .ok (.aload_n 0, 1) := by decide +kernel
theorem dX11_read_39 : decode cX11_read 39 = .ok (.getfield 37, 3) := by decide +kernel
theorem dX11_read_42 : decode cX11_read 42 = .ok (.invokevirtual 123, 3) := by decide +kernel
theorem dX11_read_45 : decode cX11_read 45 = .ok (.istore_n 2, 1) := by decide +kernel
theorem dX11_read_46 : decode cX11_read 46 = .ok (.aload_n 0, 1) := by decide +kernel
theorem dX11_read_47 : decode cX11_read 47 = .ok (.aload_n 0, 1) := by decide +kernel
theorem dX11_read_48 : decode cX11_read 48 = .ok (.getfield 44, 3) := by decide +kernel
theorem dX11_read_51 : decode cX11_read 51 = .ok (.invokevirtual 127, 3) := by decide +kernel
theorem dX11_read_54 : decode cX11_read 54 = .ok (.putfield 90, 3) := by decide +kernel
theorem dX11_read_57 : decode cX11_read 57 = .ok (.aload_n 0, 1) := by decide +kernel
theorem dX11_read_58 : decode cX11_read 58 = .ok (.getfield 30, 3) := by decide +kernel
theorem dX11_read_61 : decode cX11_read 61 = .ok (.iconst 0, 1) := by decide +kernel
theorem dX11_read_62 : decode cX11_read 62 = .ok (.invokevirtual 102, 3) := by decide +kernel
theorem dX11_read_65 : decode cX11_read 65 = .ok (.iload_n 2, 1) := by decide +kernel
theorem dX11_read_66 : decode cX11_read 66 = .ok (.ifCond .eq 14, 3) := by decide +kernel
theorem dX11_read_69 : decode cX11_read 69 = .ok (.aload_n 0, 1) := by decide +kernel
theorem dX11_read_70 : decode cX11_read 70 = .ok (.aload_n 0, 1) := by decide +kernel
theorem dX11_read_71 : decode cX11_read 71 = .ok (.getfield 37, 3) := by decide +kernel
theorem dX11_read_74 : decode cX11_read 74 = .ok (.invokevirtual 113, 3) := by decide +kernel
theorem dX11_read_77 : decode cX11_read 77 = .ok (.goto 4, 3) := by decide +kernel
theorem dX11_read_80 : decode cX11_read 80 = .ok (.iconst (-1), 1) := by decide +kernel
theorem dX11_read_81 : decode cX11_read 81 = .ok (.ireturn, 1) := by decide +kernel
set_option maxRecDepth 20000 in
theorem ggX11_span_X2_toldCode : GoodIn wsX11_span wsX2_toldCode := goodIn_r _ [8, 9, 10, 65, 66] (by decide +kernel) (by decide +kernel)
set_option maxRecDepth 20000 in
theorem gX11_span_X2_toldCode : GoodIn wsX11_span (wsV RX11 129 RX2 yX2_toldCode wsX2_toldCode) := goodIn_app (goodIn_of _ (by decide +kernel)) ggX11_span_X2_toldCode
set_option maxRecDepth 20000 in
theorem ggX11_span_X10_canTake : GoodIn wsX11_span wsX10_canTake := goodIn_r _ [15, 16, 17, 18, 19, 20, 21, 22, 23, 24, 14, 25, 26, 27, 28, 29, 30, 31, 32, 33, 34, 35, 36, 37, 67, 68, 69, 70] (by decide +kernel) (by decide +kernel)
set_option maxRecDepth 20000 in
theorem gX11_span_X10_canTake : GoodIn wsX11_span (wsV RX11 133 RX10 yX10_canTake wsX10_canTake) := goodIn_app (goodIn_of _ (by decide +kernel)) ggX11_span_X10_canTake
set_option maxRecDepth 20000 in
theorem ggX11_span_X10_tell : GoodIn wsX11_span wsX10_tell := goodIn_r _ [41, 26, 37, 31, 42, 32, 33, 34, 14, 35, 36, 67, 68, 69, 70] (by decide +kernel) (by decide +kernel)
set_option maxRecDepth 20000 in
theorem gX11_span_X10_tell : GoodIn wsX11_span (wsV RX11 139 RX10 yX10_tell wsX10_tell) := goodIn_app (goodIn_of _ (by decide +kernel)) ggX11_span_X10_tell
set_option maxRecDepth 20000 in
theorem ggX11_span_X1_forgetFreshness : GoodIn wsX11_span wsX1_forgetFreshness := goodIn_r _ [47, 48, 71, 72, 73, 74, 75, 76, 77, 78, 79, 80, 81, 82, 83, 84, 85, 86, 87, 88, 89, 90] (by decide +kernel) (by decide +kernel)
set_option maxRecDepth 20000 in
theorem gX11_span_X1_forgetFreshness : GoodIn wsX11_span (wsV RX11 143 RX1 yX1_forgetFreshness wsX1_forgetFreshness) := goodIn_app (goodIn_of _ (by decide +kernel)) ggX11_span_X1_forgetFreshness
set_option maxRecDepth 20000 in
theorem ggX11_span_X10_length : GoodIn wsX11_span wsX10_length := goodIn_r _ [52, 42, 67, 68, 69, 70] (by decide +kernel) (by decide +kernel)
set_option maxRecDepth 20000 in
theorem gX11_span_X10_length : GoodIn wsX11_span (wsV RX11 146 RX10 yX10_length wsX10_length) := goodIn_app (goodIn_of _ (by decide +kernel)) ggX11_span_X10_length
theorem dX11_span_0 : decode cX11_span 0 = .ok (.aload_n 0, 1) := by decide +kernel
theorem dX11_span_1 : decode cX11_span 1 = .ok (.iconst (-1), 1) := by decide +kernel
theorem dX11_span_2 : decode cX11_span 2 = .ok (.putfield 90, 3) := by decide +kernel
theorem dX11_span_5 : decode cX11_span 5 = .ok (.aload_n 0, 1) := by decide +kernel
theorem dX11_span_6 : decode cX11_span 6 = .ok (.getfield 40, 3) := by decide +kernel
theorem dX11_span_9 : decode cX11_span 9 = .ok (.iload_n 1, 1) := by decide +kernel
theorem dX11_span_10 : decode cX11_span 10 = .ok (.invokevirtual 129, 3) := by decide +kernel
theorem dX11_span_13 : decode cX11_span 13 = .ok (.astore 6, 2) := by decide +kernel
theorem dX11_span_15 : decode cX11_span 15 = .ok (.aload 6, 2) := by decide +kernel
theorem dX11_span_17 : decode cX11_span 17 = .ok (.ifnull 17, 3) := by decide +kernel
theorem dX11_span_20 : decode cX11_span 20 = .ok (.aload 6, 2) := by decide +kernel
theorem dX11_span_22 : decode cX11_span 22 = .ok (.iload_n 2, 1) := by decide +kernel
theorem dX11_span_23 : decode cX11_span 23 = .ok (.iload_n 3, 1) := by decide +kernel
theorem dX11_span_24 : decode cX11_span 24 = .ok (.iload 4, 2) := by decide +kernel
theorem dX11_span_26 : decode cX11_span 26 = .ok (.iload 5, 2) := by decide +kernel
theorem dX11_span_28 : decode cX11_span 28 = .ok (.invokevirtual 133, 3) := by decide +kernel
theorem dX11_span_31 : decode cX11_span 31 = .ok (.ifCond .ne 5, 3) := by decide +kernel
theorem dX11_span_34 : decode cX11_span 34 = .ok (.iconst (-1), 1) := by decide +kernel
theorem dX11_span_35 : decode cX11_span 35 = .ok (.ireturn, 1) := by decide +kernel
theorem dX11_span_36 : decode cX11_span 36 = .ok (.iconst 0, 1) := by decide +kernel
theorem dX11_span_37 : decode cX11_span 37 = .ok (.istore 7, 2) := by decide +kernel
theorem dX11_span_39 : decode cX11_span 39 = .ok (.iload 7, 2) := by decide +kernel
theorem dX11_span_41 : decode cX11_span 41 = .ok (.iload_n 3, 1) := by decide +kernel
theorem dX11_span_42 : decode cX11_span 42 = .ok (.if_icmp .ge 26, 3) := by decide +kernel
theorem dX11_span_45 : decode cX11_span 45 = .ok (.aload 6, 2) := by decide +kernel
theorem dX11_span_47 : decode cX11_span 47 = .ok (.iload_n 2, 1) := by decide +kernel
theorem dX11_span_48 : decode cX11_span 48 = .ok (.iload 7, 2) := by decide +kernel
theorem dX11_span_50 : decode cX11_span 50 = .ok (.iadd, 1) := by decide +kernel
theorem dX11_span_51 : decode cX11_span 51 = .ok (.iload 4, 2) := by decide +kernel
theorem dX11_span_53 : decode cX11_span 53 = .ok (.iload 7, 2) := by decide +kernel
theorem dX11_span_55 : decode cX11_span 55 = .ok (.iload 5, 2) := by decide +kernel
theorem dX11_span_57 : decode cX11_span 57 = .ok (.imul, 1) := by decide +kernel
theorem dX11_span_58 : decode cX11_span 58 = .ok (.iadd, 1) := by decide +kernel
theorem dX11_span_59 : decode cX11_span 59 = .ok (.invokevirtual 139, 3) := by decide +kernel
theorem dX11_span_62 : decode cX11_span 62 = .ok (.iinc 7 1, 3) := by decide +kernel
theorem dX11_span_65 : decode cX11_span 65 = .ok (.goto (-26), 3) := by decide +kernel
theorem dX11_span_68 : decode cX11_span 68 = .ok (.aload_n 0, 1) := by decide +kernel
theorem dX11_span_69 : decode cX11_span 69 = .ok (.getfield 86, 3) := by decide +kernel
theorem dX11_span_72 : decode cX11_span 72 = .ok (.invokevirtual 143, 3) := by decide +kernel
theorem dX11_span_75 : decode cX11_span 75 = .ok (.aload 6, 2) := by decide +kernel
theorem dX11_span_77 : decode cX11_span 77 = .ok (.invokevirtual 146, 3) := by decide +kernel
theorem dX11_span_80 : decode cX11_span 80 = .ok (.ireturn, 1) := by decide +kernel
set_option maxRecDepth 20000 in
theorem ggX11_blank_X2_toldCode : GoodIn wsX11_blank wsX2_toldCode := goodIn_r _ [7, 8, 9, 40, 41] (by decide +kernel) (by decide +kernel)
set_option maxRecDepth 20000 in
theorem gX11_blank_X2_toldCode : GoodIn wsX11_blank (wsV RX11 129 RX2 yX2_toldCode wsX2_toldCode) := goodIn_app (goodIn_of _ (by decide +kernel)) ggX11_blank_X2_toldCode
set_option maxRecDepth 20000 in
theorem ggX11_blank_X10_empty : GoodIn wsX11_blank wsX10_empty := goodIn_r _ [14, 15, 16, 17, 18, 19, 20, 21, 42, 43, 44, 45] (by decide +kernel) (by decide +kernel)
set_option maxRecDepth 20000 in
theorem gX11_blank_X10_empty : GoodIn wsX11_blank (wsV RX11 147 RX10 yX10_empty wsX10_empty) := goodIn_app (goodIn_of _ (by decide +kernel)) ggX11_blank_X10_empty
set_option maxRecDepth 20000 in
theorem ggX11_blank_X1_forgetFreshness : GoodIn wsX11_blank wsX1_forgetFreshness := goodIn_r _ [26, 27, 46, 47, 48, 49, 50, 51, 52, 53, 54, 55, 56, 57, 58, 59, 60, 61, 62, 63, 64, 65] (by decide +kernel) (by decide +kernel)
set_option maxRecDepth 20000 in
theorem gX11_blank_X1_forgetFreshness : GoodIn wsX11_blank (wsV RX11 143 RX1 yX1_forgetFreshness wsX1_forgetFreshness) := goodIn_app (goodIn_of _ (by decide +kernel)) ggX11_blank_X1_forgetFreshness
theorem dX11_blank_0 : decode cX11_blank 0 = .ok (.aload_n 0, 1) := by decide +kernel
theorem dX11_blank_1 : decode cX11_blank 1 = .ok (.getfield 40, 3) := by decide +kernel
theorem dX11_blank_4 : decode cX11_blank 4 = .ok (.iload_n 1, 1) := by decide +kernel
theorem dX11_blank_5 : decode cX11_blank 5 = .ok (.invokevirtual 129, 3) := by decide +kernel
theorem dX11_blank_8 : decode cX11_blank 8 = .ok (.astore_n 2, 1) := by decide +kernel
theorem dX11_blank_9 : decode cX11_blank 9 = .ok (.aload_n 2, 1) := by decide +kernel
theorem dX11_blank_10 : decode cX11_blank 10 = .ok (.ifnonnull 5, 3) := by decide +kernel
theorem dX11_blank_13 : decode cX11_blank 13 = .ok (.iconst 0, 1) := by decide +kernel
theorem dX11_blank_14 : decode cX11_blank 14 = .ok (.ireturn, 1) := by decide +kernel
theorem dX11_blank_15 : decode cX11_blank 15 = .ok (.aload_n 2, 1) := by decide +kernel
theorem dX11_blank_16 : decode cX11_blank 16 = .ok (.invokevirtual 147, 3) := by decide +kernel
theorem dX11_blank_19 : decode cX11_blank 19 = .ok (.aload_n 0, 1) := by decide +kernel
theorem dX11_blank_20 : decode cX11_blank 20 = .ok (.getfield 86, 3) := by decide +kernel
theorem dX11_blank_23 : decode cX11_blank 23 = .ok (.invokevirtual 143, 3) := by decide +kernel
theorem dX11_blank_26 : decode cX11_blank 26 = .ok (.iconst 1, 1) := by decide +kernel
theorem dX11_blank_27 : decode cX11_blank 27 = .ok (.ireturn, 1) := by decide +kernel
set_option maxRecDepth 20000 in
theorem ggX11_count_X5_length : GoodIn wsX11_count wsX5_length := goodIn_r _ [11, 12, 70, 71] (by decide +kernel) (by decide +kernel)
set_option maxRecDepth 20000 in
theorem gX11_count_X5_length : GoodIn wsX11_count (wsV RX11 94 RX5 yX5_length wsX5_length) := goodIn_app (goodIn_of _ (by decide +kernel)) ggX11_count_X5_length
set_option maxRecDepth 20000 in
theorem ggX11_count_X4_length : GoodIn wsX11_count wsX4_length := goodIn_r _ [17, 18, 72, 73, 74, 75] (by decide +kernel) (by decide +kernel)
set_option maxRecDepth 20000 in
theorem gX11_count_X4_length : GoodIn wsX11_count (wsV RX11 150 RX4 yX4_length wsX4_length) := goodIn_app (goodIn_of _ (by decide +kernel)) ggX11_count_X4_length
set_option maxRecDepth 20000 in
theorem ggX11_count_X0_length : GoodIn wsX11_count wsX0_length := goodIn_r _ [23, 24, 76, 77, 78, 79] (by decide +kernel) (by decide +kernel)
set_option maxRecDepth 20000 in
theorem gX11_count_X0_length : GoodIn wsX11_count (wsV RX11 151 RX0 yX0_length wsX0_length) := goodIn_app (goodIn_of _ (by decide +kernel)) ggX11_count_X0_length
set_option maxRecDepth 20000 in
theorem ggX11_count_X11_marksOf : GoodIn wsX11_count wsX11_marksOf := goodIn_r _ [28, 29, 7, 8, 9, 10, 11, 12, 30, 31, 32, 33, 34, 70, 71] (by decide +kernel) (by decide +kernel)
set_option maxRecDepth 20000 in
theorem gX11_count_X11_marksOf : GoodIn wsX11_count (va_wsS RX11 152 yX11_marksOf wsX11_marksOf) := goodIn_app (goodIn_of _ (by decide +kernel)) ggX11_count_X11_marksOf
set_option maxRecDepth 20000 in
theorem ggX11_count_X3_length : GoodIn wsX11_count wsX3_length := goodIn_r _ [39, 40, 80, 81, 82] (by decide +kernel) (by decide +kernel)
set_option maxRecDepth 20000 in
theorem gX11_count_X3_length : GoodIn wsX11_count (wsV RX11 155 RX3 yX3_length wsX3_length) := goodIn_app (goodIn_of _ (by decide +kernel)) ggX11_count_X3_length
set_option maxRecDepth 20000 in
theorem ggX11_count_X2_lengthOf : GoodIn wsX11_count wsX2_lengthOf := goodIn_r _ [45, 46, 47, 48, 44, 49, 50, 51, 52, 53, 54, 55, 56, 57, 83, 84, 85, 86, 87, 88] (by decide +kernel) (by decide +kernel)
set_option maxRecDepth 20000 in
theorem gX11_count_X2_lengthOf : GoodIn wsX11_count (wsV RX11 156 RX2 yX2_lengthOf wsX2_lengthOf) := goodIn_app (goodIn_of _ (by decide +kernel)) ggX11_count_X2_lengthOf
theorem dX11_count_0 : decode cX11_count 0 = .ok (.iload_n 1, 1) := by decide +kernel
theorem dX11_count_1 : decode cX11_count 1 = .ok (.tableswitch 113 0 7 #[47, 55, 63, 71, 79, 87, 95, 104], 47) := by decide +kernel
theorem dX11_count_48 : decode cX11_count 48 = .ok (.aload_n 0, 1) := by decide +kernel
theorem dX11_count_49 : decode cX11_count 49 = .ok (.getfield 34, 3) := by decide +kernel
theorem dX11_count_52 : decode cX11_count 52 = .ok (.invokevirtual 94, 3) := by decide +kernel
theorem dX11_count_55 : decode cX11_count 55 = .ok (.ireturn, 1) := by decide +kernel
theorem dX11_count_56 : decode cX11_count 56 = .ok (.aload_n 0, 1) := by decide +kernel
theorem dX11_count_57 : decode cX11_count 57 = .ok (.getfield 30, 3) := by decide +kernel
theorem dX11_count_60 : decode cX11_count 60 = .ok (.invokevirtual 94, 3) := by decide +kernel
theorem dX11_count_63 : decode cX11_count 63 = .ok (.ireturn, 1) := by decide +kernel
theorem dX11_count_64 : decode cX11_count 64 = .ok (.aload_n 0, 1) := by decide +kernel
theorem dX11_count_65 : decode cX11_count 65 = .ok (.getfield 48, 3) := by decide +kernel
theorem dX11_count_68 : decode cX11_count 68 = .ok (.invokevirtual 150, 3) := by decide +kernel
theorem dX11_count_71 : decode cX11_count 71 = .ok (.ireturn, 1) := by decide +kernel
theorem dX11_count_72 : decode cX11_count 72 = .ok (.aload_n 0, 1) := by decide +kernel
theorem dX11_count_73 : decode cX11_count 73 = .ok (.getfield 59, 3) := by decide +kernel
theorem dX11_count_76 : decode cX11_count 76 = .ok (.invokevirtual 151, 3) := by decide +kernel
theorem dX11_count_79 : decode cX11_count 79 = .ok (.ireturn, 1) := by decide +kernel
theorem dX11_count_80 : decode cX11_count 80 = .ok (.aload_n 0, 1) := by decide +kernel
theorem dX11_count_81 : decode cX11_count 81 = .ok (.getfield 34, 3) := by decide +kernel
theorem dX11_count_84 : decode cX11_count 84 = .ok (.invokestatic 152, 3) := by decide +kernel
theorem dX11_count_87 : decode cX11_count 87 = .ok (.ireturn, 1) := by decide +kernel
theorem dX11_count_88 : decode cX11_count 88 = .ok (.aload_n 0, 1) := by decide +kernel
theorem dX11_count_89 : decode cX11_count 89 = .ok (.getfield 52, 3) := by decide +kernel
theorem dX11_count_92 : decode cX11_count 92 = .ok (.invokevirtual 155, 3) := by decide +kernel
theorem dX11_count_95 : decode cX11_count 95 = .ok (.ireturn, 1) := by decide +kernel
theorem dX11_count_96 : decode cX11_count 96 = .ok (.aload_n 0, 1) := by decide +kernel
theorem dX11_count_97 : decode cX11_count 97 = .ok (.getfield 40, 3) := by decide +kernel
theorem dX11_count_100 : decode cX11_count 100 = .ok (.iconst 4, 1) := by decide +kernel
theorem dX11_count_101 : decode cX11_count 101 = .ok (.invokevirtual 156, 3) := by decide +kernel
theorem dX11_count_104 : decode cX11_count 104 = .ok (.ireturn, 1) := by decide +kernel
theorem dX11_count_105 : decode cX11_count 105 = .ok (.aload_n 0, 1) := by decide +kernel
theorem dX11_count_106 : decode cX11_count 106 = .ok (.getfield 40, 3) := by decide +kernel
theorem dX11_count_109 : decode cX11_count 109 = .ok (.iconst 5, 1) := by decide +kernel
theorem dX11_count_110 : decode cX11_count 110 = .ok (.invokevirtual 156, 3) := by decide +kernel
theorem dX11_count_113 : decode cX11_count 113 = .ok (.ireturn, 1) := by decide +kernel
theorem dX11_count_114 : decode cX11_count 114 = .ok (.iconst (-1), 1) := by decide +kernel
theorem dX11_count_115 : decode cX11_count 115 = .ok (.ireturn, 1) := by decide +kernel
set_option maxRecDepth 20000 in
theorem ggX11_at_X5_length : GoodIn wsX11_at wsX5_length := goodIn_r _ [8, 9, 27, 28] (by decide +kernel) (by decide +kernel)
set_option maxRecDepth 20000 in
theorem gX11_at_X5_length : GoodIn wsX11_at (wsV RX11 94 RX5 yX5_length wsX5_length) := goodIn_app (goodIn_of _ (by decide +kernel)) ggX11_at_X5_length
set_option maxRecDepth 20000 in
theorem ggX11_at_X5_get : GoodIn wsX11_at wsX5_get := goodIn_r _ [13, 9, 14, 27, 28] (by decide +kernel) (by decide +kernel)
set_option maxRecDepth 20000 in
theorem gX11_at_X5_get : GoodIn wsX11_at (wsV RX11 167 RX5 yX5_get wsX5_get) := goodIn_app (goodIn_of _ (by decide +kernel)) ggX11_at_X5_get
theorem dX11_at_0 : decode cX11_at 0 = .ok (.iload_n 1, 1) := by decide +kernel
theorem dX11_at_1 : decode cX11_at 1 = .ok (.ifCond .lt 14, 3) := by decide +kernel
theorem dX11_at_4 : decode cX11_at 4 = .ok (.iload_n 1, 1) := by decide +kernel
theorem dX11_at_5 : decode cX11_at 5 = .ok (.aload_n 0, 1) := by decide +kernel
theorem dX11_at_6 : decode cX11_at 6 = .ok (.getfield 34, 3) := by decide +kernel
theorem dX11_at_9 : decode cX11_at 9 = .ok (.invokevirtual 94, 3) := by decide +kernel
theorem dX11_at_12 : decode cX11_at 12 = .ok (.if_icmp .lt 13, 3) := by decide +kernel
theorem dX11_at_15 : decode cX11_at 15 = .ok (.new 160, 3) := by decide +kernel
theorem dX11_at_18 : decode cX11_at 18 = .ok (.dup, 1) := by decide +kernel
theorem dX11_at_19 : decode cX11_at 19 = .ok (.ldc 162, 2) := by decide +kernel
theorem dX11_at_21 : decode cX11_at 21 = .ok (.invokespecial 164, 3) := by decide +kernel
theorem dX11_at_24 : decode cX11_at 24 = .ok (.athrow, 1) := by decide +kernel
theorem dX11_at_25 : decode cX11_at 25 = .ok (.aload_n 0, 1) := by decide +kernel
theorem dX11_at_26 : decode cX11_at 26 = .ok (.getfield 34, 3) := by decide +kernel
theorem dX11_at_29 : decode cX11_at 29 = .ok (.iload_n 1, 1) := by decide +kernel
theorem dX11_at_30 : decode cX11_at 30 = .ok (.invokevirtual 167, 3) := by decide +kernel
theorem dX11_at_33 : decode cX11_at 33 = .ok (.ireturn, 1) := by decide +kernel
set_option maxRecDepth 20000 in
theorem ggX11_size_X11_writes : GoodIn wsX11_size wsX11_writes := goodIn_r _ [6, 7, 1, 8, 9, 10, 11, 12, 13, 14, 15, 16, 17, 18, 19, 20, 21, 22, 23, 24, 25, 26, 27, 28, 29, 30, 31, 32, 33, 34, 35, 36, 37, 38, 39, 40, 41, 42, 43, 44, 45, 46, 47, 48, 49, 50, 51, 52, 53, 54, 55, 56, 57, 58, 59, 60, 61, 62, 63, 64, 65, 66, 67, 68, 69, 70, 71, 72, 73, 74, 80, 81, 82, 83, 84, 85, 86, 87, 88, 89, 90, 91, 92, 93, 94, 95, 96, 97, 98, 99, 100, 101, 102] (by decide +kernel) (by decide +kernel)
set_option maxRecDepth 20000 in
theorem gX11_size_X11_writes : GoodIn wsX11_size (wsV RX11 170 RX11 yX11_writes wsX11_writes) := goodIn_app (goodIn_of _ (by decide +kernel)) ggX11_size_X11_writes
set_option maxRecDepth 20000 in
theorem ggX11_size_X7_bytes : GoodIn wsX11_size wsX7_bytes := goodIn_r _ [78, 19, 92, 93, 94] (by decide +kernel) (by decide +kernel)
set_option maxRecDepth 20000 in
theorem gX11_size_X7_bytes : GoodIn wsX11_size (wsV RX11 173 RX7 yX7_bytes wsX7_bytes) := goodIn_app (goodIn_of _ (by decide +kernel)) ggX11_size_X7_bytes
set_option maxRecDepth 20000 in
theorem ggX11_size_X5_length : GoodIn wsX11_size wsX5_length := goodIn_r _ [30, 26, 95, 96] (by decide +kernel) (by decide +kernel)
set_option maxRecDepth 20000 in
theorem gX11_size_X5_length : GoodIn wsX11_size (wsV RX11 94 RX5 yX5_length wsX5_length) := goodIn_app (goodIn_of _ (by decide +kernel)) ggX11_size_X5_length
theorem dX11_size_0 : decode cX11_size 0 = .ok (.aload_n 0, 1) := by decide +kernel
theorem dX11_size_1 : decode cX11_size 1 = .ok (.iload_n 1, 1) := by decide +kernel
theorem dX11_size_2 : decode cX11_size 2 = .ok (.invokevirtual 170, 3) := by decide +kernel
theorem dX11_size_5 : decode cX11_size 5 = .ok (.ifCond .eq 16, 3) := by decide +kernel
theorem dX11_size_8 : decode cX11_size 8 = .ok (.aload_n 0, 1) := by decide +kernel
theorem dX11_size_9 : decode cX11_size 9 = .ok (.getfield 44, 3) := by decide +kernel
theorem dX11_size_12 : decode cX11_size 12 = .ok (.invokevirtual 173, 3) := by decide +kernel
theorem dX11_size_15 : decode cX11_size 15 = .ok (.invokevirtual 94, 3) := by decide +kernel
theorem dX11_size_18 : decode cX11_size 18 = .ok (.goto 4, 3) := by decide +kernel
theorem dX11_size_21 : decode cX11_size 21 = .ok (.iconst (-1), 1) := by decide +kernel
theorem dX11_size_22 : decode cX11_size 22 = .ok (.ireturn, 1) := by decide +kernel
set_option maxRecDepth 20000 in
theorem ggX11_byteOf_X11_writes : GoodIn wsX11_byteOf wsX11_writes := goodIn_r _ [6, 7, 1, 8, 9, 10, 11, 12, 13, 14, 15, 16, 17, 18, 19, 20, 21, 22, 23, 24, 25, 26, 27, 28, 29, 30, 31, 32, 33, 34, 35, 36, 37, 38, 39, 40, 41, 42, 43, 44, 45, 46, 47, 48, 49, 50, 51, 52, 53, 54, 55, 56, 57, 58, 59, 60, 61, 62, 63, 64, 65, 66, 67, 68, 69, 70, 71, 72, 73, 74, 80, 81, 82, 83, 84, 85, 86, 87, 88, 89, 90, 91, 92, 93, 94, 95, 96, 97, 98, 99, 100, 101, 102] (by decide +kernel) (by decide +kernel)
set_option maxRecDepth 20000 in
theorem gX11_byteOf_X11_writes : GoodIn wsX11_byteOf (wsV RX11 170 RX11 yX11_writes wsX11_writes) := goodIn_app (goodIn_of _ (by decide +kernel)) ggX11_byteOf_X11_writes
set_option maxRecDepth 20000 in
theorem ggX11_byteOf_X7_bytes : GoodIn wsX11_byteOf wsX7_bytes := goodIn_r _ [78, 19, 92, 93, 94] (by decide +kernel) (by decide +kernel)
set_option maxRecDepth 20000 in
theorem gX11_byteOf_X7_bytes : GoodIn wsX11_byteOf (wsV RX11 173 RX7 yX7_bytes wsX7_bytes) := goodIn_app (goodIn_of _ (by decide +kernel)) ggX11_byteOf_X7_bytes
set_option maxRecDepth 20000 in
theorem ggX11_byteOf_X5_get : GoodIn wsX11_byteOf wsX5_get := goodIn_r _ [34, 26, 35, 95, 96] (by decide +kernel) (by decide +kernel)
set_option maxRecDepth 20000 in
theorem gX11_byteOf_X5_get : GoodIn wsX11_byteOf (wsV RX11 167 RX5 yX5_get wsX5_get) := goodIn_app (goodIn_of _ (by decide +kernel)) ggX11_byteOf_X5_get
theorem dX11_byteOf_0 : decode cX11_byteOf 0 = .ok (.aload_n 0, 1) := by decide +kernel
theorem dX11_byteOf_1 : decode cX11_byteOf 1 = .ok (.iload_n 1, 1) := by decide +kernel
theorem dX11_byteOf_2 : decode cX11_byteOf 2 = .ok (.invokevirtual 170, 3) := by decide +kernel
theorem dX11_byteOf_5 : decode cX11_byteOf 5 = .ok (.ifCond .eq 17, 3) := by decide +kernel
theorem dX11_byteOf_8 : decode cX11_byteOf 8 = .ok (.aload_n 0, 1) := by decide +kernel
theorem dX11_byteOf_9 : decode cX11_byteOf 9 = .ok (.getfield 44, 3) := by decide +kernel
theorem dX11_byteOf_12 : decode cX11_byteOf 12 = .ok (.invokevirtual 173, 3) := by decide +kernel
theorem dX11_byteOf_15 : decode cX11_byteOf 15 = .ok (.iload_n 2, 1) := by decide +kernel
theorem dX11_byteOf_16 : decode cX11_byteOf 16 = .ok (.invokevirtual 167, 3) := by decide +kernel
theorem dX11_byteOf_19 : decode cX11_byteOf 19 = .ok (.goto 4, 3) := by decide +kernel
theorem dX11_byteOf_22 : decode cX11_byteOf 22 = .ok (.iconst (-1), 1) := by decide +kernel
theorem dX11_byteOf_23 : decode cX11_byteOf 23 = .ok (.ireturn, 1) := by decide +kernel
theorem dX11_where_0 : decode cX11_where 0 = .ok (.aload_n 0, 1) := by decide +kernel
theorem dX11_where_1 : decode cX11_where 1 = .ok (.getfield 90, 3) := by decide +kernel
theorem dX11_where_4 : decode cX11_where 4 = .ok (.ireturn, 1) := by decide +kernel
set_option maxRecDepth 20000 in
theorem ggX11_harm_X11_passes : GoodIn wsX11_harm wsX11_passes := goodIn_r _ [6, 7, 8, 9, 1, 10, 11, 12, 13, 14, 15, 16, 17, 18, 19, 20, 21, 22, 23, 24, 25, 26, 27, 28, 29, 30, 31, 32, 33, 34, 35, 36, 37, 38, 39, 40, 41, 42, 43, 44, 45, 46, 47, 48, 49, 50, 51, 52, 53, 54, 55, 56, 57, 58, 59, 60, 61, 62, 63, 64, 65, 66, 67, 68, 69, 70, 71, 72, 73, 74, 75, 76, 77, 78, 79, 80, 81, 82, 83, 84, 85, 86, 87, 88, 89, 90, 91, 92, 93, 94, 95, 96, 97, 98, 99, 100, 101, 102, 103, 104, 5, 105, 106, 107, 108, 109, 110, 111, 112, 113, 114, 115, 116, 117, 118, 119, 120, 121, 122, 162, 163, 164, 165, 166, 167, 168, 169, 170, 171, 172, 173, 174, 175, 176, 177, 178, 179, 180, 181, 182, 183, 184] (by decide +kernel) (by decide +kernel)
set_option maxRecDepth 20000 in
theorem gX11_harm_X11_passes : GoodIn wsX11_harm (wsV RX11 177 RX11 yX11_passes wsX11_passes) := goodIn_app (goodIn_of _ (by decide +kernel)) ggX11_harm_X11_passes
set_option maxRecDepth 20000 in
theorem ggX11_harm_X11_become : GoodIn wsX11_harm wsX11_become := goodIn_r _ [126, 127, 9, 128, 129, 130, 131, 132, 133, 134, 135, 82, 136, 137, 138, 139, 140, 141, 33, 34, 29, 35, 31, 142, 37, 38, 39, 40, 143, 144, 145, 146, 147, 148, 149, 150, 151, 152, 153, 154, 155, 156, 157, 158, 159, 160, 161, 162, 163, 164, 165, 166, 167, 168, 169, 170, 171, 172, 173, 185, 186, 187, 188, 177, 178, 189, 190, 191, 192, 193, 194, 195, 196, 197, 198, 199, 200, 201, 202, 203, 204, 205, 206, 207, 208] (by decide +kernel) (by decide +kernel)
set_option maxRecDepth 20000 in
theorem gX11_harm_X11_become : GoodIn wsX11_harm (wsV RX11 113 RX11 yX11_become wsX11_become) := goodIn_app (goodIn_of _ (by decide +kernel)) ggX11_harm_X11_become
theorem dX11_harm_0 : decode cX11_harm 0 = .ok (.aload_n 0, 1) := by decide +kernel
theorem dX11_harm_1 : decode cX11_harm 1 = .ok (.iload_n 1, 1) := by decide +kernel
theorem dX11_harm_2 : decode cX11_harm 2 = .ok (.iload_n 2, 1) := by decide +kernel
theorem dX11_harm_3 : decode cX11_harm 3 = .ok (.invokevirtual 177, 3) := by decide +kernel
theorem dX11_harm_6 : decode cX11_harm 6 = .ok (.ifCond .eq 14, 3) := by decide +kernel
theorem dX11_harm_9 : decode cX11_harm 9 = .ok (.aload_n 0, 1) := by decide +kernel
theorem dX11_harm_10 : decode cX11_harm 10 = .ok (.aload_n 0, 1) := by decide +kernel
theorem dX11_harm_11 : decode cX11_harm 11 = .ok (.getfield 37, 3) := by decide +kernel
theorem dX11_harm_14 : decode cX11_harm 14 = .ok (.invokevirtual 113, 3) := by decide +kernel
theorem dX11_harm_17 : decode cX11_harm 17 = .ok (.goto 4, 3) := by decide +kernel
theorem dX11_harm_20 : decode cX11_harm 20 = .ok (.iconst (-1), 1) := by decide +kernel
theorem dX11_harm_21 : decode cX11_harm 21 = .ok (.ireturn, 1) := by decide +kernel
set_option maxRecDepth 20000 in
theorem ggX11_rough_X2_known : GoodIn wsX11_rough wsX2_known := goodIn_r _ [8] (by decide +kernel) (by decide +kernel)
set_option maxRecDepth 20000 in
theorem gX11_rough_X2_known : GoodIn wsX11_rough (va_wsS RX11 117 yX2_known wsX2_known) := goodIn_app (goodIn_of _ (by decide +kernel)) ggX11_rough_X2_known
set_option maxRecDepth 20000 in
theorem ggX11_rough_X7_passRoughly : GoodIn wsX11_rough wsX7_passRoughly := goodIn_r _ [13, 14, 15, 16, 17, 18, 19, 20, 21, 22, 23, 12, 24, 25, 26, 27, 28, 29, 30, 31, 32, 33, 34, 35, 36, 37, 38, 39, 40, 41, 42, 43, 7, 44, 45, 46, 47, 48, 49, 50, 51, 52, 53, 54, 55, 56, 57, 58, 59, 60, 61, 62, 63, 64, 65, 66, 67, 68, 69, 70, 71, 72, 73, 74, 75, 76, 77, 78, 79, 80, 81, 82, 83, 84, 85, 86, 87, 88, 89, 90, 91, 92, 93, 94, 95, 96, 97, 98, 99, 100, 101, 102, 103, 104, 105, 106, 107, 108, 109, 110, 111, 167, 168, 169, 170, 171, 172, 173, 174, 175, 176, 177] (by decide +kernel) (by decide +kernel)
set_option maxRecDepth 20000 in
theorem gX11_rough_X7_passRoughly : GoodIn wsX11_rough (wsV RX11 181 RX7 yX7_passRoughly wsX7_passRoughly) := goodIn_app (goodIn_of _ (by decide +kernel)) ggX11_rough_X7_passRoughly
set_option maxRecDepth 20000 in
theorem ggX11_rough_X7_fault : GoodIn wsX11_rough wsX7_fault := goodIn_r _ [115, 25, 167, 168, 169] (by decide +kernel) (by decide +kernel)
set_option maxRecDepth 20000 in
theorem gX11_rough_X7_fault : GoodIn wsX11_rough (wsV RX11 127 RX7 yX7_fault wsX7_fault) := goodIn_app (goodIn_of _ (by decide +kernel)) ggX11_rough_X7_fault
set_option maxRecDepth 20000 in
theorem ggX11_rough_X11_become : GoodIn wsX11_rough wsX11_become := goodIn_r _ [119, 120, 3, 121, 122, 123, 124, 125, 126, 127, 128, 19, 129, 130, 131, 132, 133, 134, 33, 34, 29, 35, 31, 135, 37, 38, 39, 40, 136, 137, 138, 139, 140, 141, 142, 143, 144, 145, 146, 147, 148, 149, 150, 151, 152, 153, 154, 155, 156, 157, 158, 159, 160, 161, 162, 163, 164, 165, 166, 178, 179, 180, 181, 170, 171, 182, 183, 184, 185, 186, 187, 188, 189, 190, 191, 192, 193, 194, 195, 196, 197, 198, 199, 200, 201] (by decide +kernel) (by decide +kernel)
set_option maxRecDepth 20000 in
theorem gX11_rough_X11_become : GoodIn wsX11_rough (wsV RX11 113 RX11 yX11_become wsX11_become) := goodIn_app (goodIn_of _ (by decide +kernel)) ggX11_rough_X11_become
theorem dX11_rough_0 : decode cX11_rough 0 = .ok (.aload_n 0, 1) := by decide +kernel
theorem dX11_rough_1 : decode cX11_rough 1 = .ok (.iconst (-1), 1) := by decide +kernel
theorem dX11_rough_2 : decode cX11_rough 2 = .ok (.putfield 90, 3) := by decide +kernel
theorem dX11_rough_5 : decode cX11_rough 5 = .ok (.iload_n 1, 1) := by decide +kernel
theorem dX11_rough_6 : decode cX11_rough 6 = .ok (.invokestatic 117, 3) := by decide +kernel
theorem dX11_rough_9 : decode cX11_rough 9 = .ok (.ifCond .eq 10, 3) := by decide +kernel
theorem dX11_rough_12 : decode cX11_rough 12 = .ok (.iload_n 2, 1) := by decide +kernel
theorem dX11_rough_13 : decode cX11_rough 13 = .ok (.invokestatic 117, 3) := by decide +kernel
theorem dX11_rough_16 : decode cX11_rough 16 = .ok (.ifCond .ne 5, 3) := by decide +kernel
theorem dX11_rough_19 : decode cX11_rough 19 = .ok (.iconst (-1), 1) := by decide +kernel
theorem dX11_rough_20 : decode cX11_rough 20 = .ok (.ireturn, 1) := by decide +kernel
theorem dX11_rough_21 : decode cX11_rough 21 = .ok (.aload_n 0, 1) := by decide +kernel
theorem dX11_rough_22 : decode cX11_rough 22 = .ok (.getfield 44, 3) := by decide +kernel
theorem dX11_rough_25 : decode cX11_rough 25 = .ok (.iload_n 1, 1) := by decide +kernel
theorem dX11_rough_26 : decode cX11_rough 26 = .ok (.iload_n 2, 1) := by decide +kernel
theorem dX11_rough_27 : decode cX11_rough 27 = .ok (.aload_n 0, 1) := by decide +kernel
theorem dX11_rough_28 : decode cX11_rough 28 = .ok (.getfield 34, 3) := by decide +kernel
theorem dX11_rough_31 : decode cX11_rough 31 = .ok (.aload_n 0, 1) := by decide +kernel
theorem dX11_rough_32 : decode cX11_rough 32 = .ok (.getfield 37, 3) := by decide +kernel
theorem dX11_rough_35 : decode cX11_rough 35 = .ok (.invokevirtual 181, 3) := by decide +kernel
theorem dX11_rough_38 : decode cX11_rough 38 = .ok (.istore_n 3, 1) := by decide +kernel
theorem dX11_rough_39 : decode cX11_rough 39 = .ok (.aload_n 0, 1) := by decide +kernel
theorem dX11_rough_40 : decode cX11_rough 40 = .ok (.aload_n 0, 1) := by decide +kernel
theorem dX11_rough_41 : decode cX11_rough 41 = .ok (.getfield 44, 3) := by decide +kernel
theorem dX11_rough_44 : decode cX11_rough 44 = .ok (.invokevirtual 127, 3) := by decide +kernel
theorem dX11_rough_47 : decode cX11_rough 47 = .ok (.putfield 90, 3) := by decide +kernel
theorem dX11_rough_50 : decode cX11_rough 50 = .ok (.iload_n 3, 1) := by decide +kernel
theorem dX11_rough_51 : decode cX11_rough 51 = .ok (.iconst (-1), 1) := by decide +kernel
theorem dX11_rough_52 : decode cX11_rough 52 = .ok (.if_icmp .ne 5, 3) := by decide +kernel
theorem dX11_rough_55 : decode cX11_rough 55 = .ok (.iconst (-1), 1) := by decide +kernel
theorem dX11_rough_56 : decode cX11_rough 56 = .ok (.ireturn, 1) := by decide +kernel
theorem dX11_rough_57 : decode cX11_rough 57 = .ok (.aload_n 0, 1) := by decide +kernel
theorem dX11_rough_58 : decode cX11_rough 58 = .ok (.aload_n 0, 1) := by decide +kernel
theorem dX11_rough_59 : decode cX11_rough 59 = .ok (.getfield 37, 3) := by decide +kernel
theorem dX11_rough_62 : decode cX11_rough 62 = .ok (.invokevirtual 113, 3) := by decide +kernel
theorem dX11_rough_65 : decode cX11_rough 65 = .ok (.pop, 1) := by decide +kernel
theorem dX11_rough_66 : decode cX11_rough 66 = .ok (.iload_n 3, 1) := by decide +kernel
theorem dX11_rough_67 : decode cX11_rough 67 = .ok (.ireturn, 1) := by decide +kernel
set_option maxRecDepth 20000 in
theorem ggX11_undo_X11_passes : GoodIn wsX11_undo wsX11_passes := goodIn_r _ [6, 7, 8, 9, 1, 10, 11, 12, 13, 14, 15, 16, 17, 18, 19, 20, 21, 22, 23, 24, 25, 26, 27, 28, 29, 30, 31, 32, 33, 34, 35, 36, 37, 38, 39, 40, 41, 42, 43, 44, 45, 46, 47, 48, 49, 50, 51, 52, 53, 54, 55, 56, 57, 58, 59, 60, 61, 62, 63, 64, 65, 66, 67, 68, 69, 70, 71, 72, 73, 74, 75, 76, 77, 78, 79, 80, 81, 82, 83, 84, 85, 86, 87, 88, 89, 90, 91, 92, 93, 94, 95, 96, 97, 98, 99, 100, 101, 102, 103, 104, 5, 105, 106, 107, 108, 109, 110, 111, 112, 113, 114, 115, 116, 117, 118, 119, 120, 121, 122, 162, 163, 164, 165, 166, 167, 168, 169, 170, 171, 172, 173, 174, 175, 176, 177, 178, 179, 180, 181, 182, 183, 184] (by decide +kernel) (by decide +kernel)
set_option maxRecDepth 20000 in
theorem gX11_undo_X11_passes : GoodIn wsX11_undo (wsV RX11 177 RX11 yX11_passes wsX11_passes) := goodIn_app (goodIn_of _ (by decide +kernel)) ggX11_undo_X11_passes
set_option maxRecDepth 20000 in
theorem ggX11_undo_X11_become : GoodIn wsX11_undo wsX11_become := goodIn_r _ [126, 127, 9, 128, 129, 130, 131, 132, 133, 134, 135, 82, 136, 137, 138, 139, 140, 141, 33, 34, 29, 35, 31, 142, 37, 38, 39, 40, 143, 144, 145, 146, 147, 148, 149, 150, 151, 152, 153, 154, 155, 156, 157, 158, 159, 160, 161, 162, 163, 164, 165, 166, 167, 168, 169, 170, 171, 172, 173, 185, 186, 187, 188, 177, 178, 189, 190, 191, 192, 193, 194, 195, 196, 197, 198, 199, 200, 201, 202, 203, 204, 205, 206, 207, 208] (by decide +kernel) (by decide +kernel)
set_option maxRecDepth 20000 in
theorem gX11_undo_X11_become : GoodIn wsX11_undo (wsV RX11 113 RX11 yX11_become wsX11_become) := goodIn_app (goodIn_of _ (by decide +kernel)) ggX11_undo_X11_become
theorem dX11_undo_0 : decode cX11_undo 0 = .ok (.aload_n 0, 1) := by decide +kernel
theorem dX11_undo_1 : decode cX11_undo 1 = .ok (.iload_n 2, 1) := by decide +kernel
theorem dX11_undo_2 : decode cX11_undo 2 = .ok (.iload_n 1, 1) := by decide +kernel
theorem dX11_undo_3 : decode cX11_undo 3 = .ok (.invokevirtual 177, 3) := by decide +kernel
theorem dX11_undo_6 : decode cX11_undo 6 = .ok (.ifCond .eq 14, 3) := by decide +kernel
theorem dX11_undo_9 : decode cX11_undo 9 = .ok (.aload_n 0, 1) := by decide +kernel
theorem dX11_undo_10 : decode cX11_undo 10 = .ok (.aload_n 0, 1) := by decide +kernel
theorem dX11_undo_11 : decode cX11_undo 11 = .ok (.getfield 37, 3) := by decide +kernel
theorem dX11_undo_14 : decode cX11_undo 14 = .ok (.invokevirtual 113, 3) := by decide +kernel
theorem dX11_undo_17 : decode cX11_undo 17 = .ok (.goto 4, 3) := by decide +kernel
theorem dX11_undo_20 : decode cX11_undo 20 = .ok (.iconst (-1), 1) := by decide +kernel
theorem dX11_undo_21 : decode cX11_undo 21 = .ok (.ireturn, 1) := by decide +kernel
set_option maxRecDepth 20000 in
theorem ggX11_safe_X2_known : GoodIn wsX11_safe wsX2_known := goodIn_r _ [6] (by decide +kernel) (by decide +kernel)
set_option maxRecDepth 20000 in
theorem gX11_safe_X2_known : GoodIn wsX11_safe (va_wsS RX11 117 yX2_known wsX2_known) := goodIn_app (goodIn_of _ (by decide +kernel)) ggX11_safe_X2_known
set_option maxRecDepth 20000 in
theorem ggX11_safe_X2_neverLost : GoodIn wsX11_safe wsX2_neverLost := goodIn_r _ [10, 11, 12, 13, 5, 14, 15, 16, 17, 18, 19, 20, 21, 22, 23, 24, 25, 26, 27, 28, 29, 30, 43, 44, 45, 46, 47, 48] (by decide +kernel) (by decide +kernel)
set_option maxRecDepth 20000 in
theorem gX11_safe_X2_neverLost : GoodIn wsX11_safe (wsV RX11 185 RX2 yX2_neverLost wsX2_neverLost) := goodIn_app (goodIn_of _ (by decide +kernel)) ggX11_safe_X2_neverLost
theorem dX11_safe_0 : decode cX11_safe 0 = .ok (.aload_n 0, 1) := by decide +kernel
theorem dX11_safe_1 : decode cX11_safe 1 = .ok (.iconst (-1), 1) := by decide +kernel
theorem dX11_safe_2 : decode cX11_safe 2 = .ok (.putfield 90, 3) := by decide +kernel
theorem dX11_safe_5 : decode cX11_safe 5 = .ok (.iload_n 1, 1) := by decide +kernel
theorem dX11_safe_6 : decode cX11_safe 6 = .ok (.invokestatic 117, 3) := by decide +kernel
theorem dX11_safe_9 : decode cX11_safe 9 = .ok (.ifCond .eq 10, 3) := by decide +kernel
theorem dX11_safe_12 : decode cX11_safe 12 = .ok (.iload_n 2, 1) := by decide +kernel
theorem dX11_safe_13 : decode cX11_safe 13 = .ok (.invokestatic 117, 3) := by decide +kernel
theorem dX11_safe_16 : decode cX11_safe 16 = .ok (.ifCond .ne 5, 3) := by decide +kernel
theorem dX11_safe_19 : decode cX11_safe 19 = .ok (.iconst (-1), 1) := by decide +kernel
theorem dX11_safe_20 : decode cX11_safe 20 = .ok (.ireturn, 1) := by decide +kernel
theorem dX11_safe_21 : decode cX11_safe 21 = .ok (.aload_n 0, 1) := by decide +kernel
theorem dX11_safe_22 : decode cX11_safe 22 = .ok (.getfield 40, 3) := by decide +kernel
theorem dX11_safe_25 : decode cX11_safe 25 = .ok (.iload_n 1, 1) := by decide +kernel
theorem dX11_safe_26 : decode cX11_safe 26 = .ok (.iload_n 2, 1) := by decide +kernel
theorem dX11_safe_27 : decode cX11_safe 27 = .ok (.invokevirtual 185, 3) := by decide +kernel
theorem dX11_safe_30 : decode cX11_safe 30 = .ok (.ifCond .eq 7, 3) := by decide +kernel
theorem dX11_safe_33 : decode cX11_safe 33 = .ok (.iconst 1, 1) := by decide +kernel
theorem dX11_safe_34 : decode cX11_safe 34 = .ok (.goto 4, 3) := by decide +kernel
theorem dX11_safe_37 : decode cX11_safe 37 = .ok (.iconst 0, 1) := by decide +kernel
theorem dX11_safe_38 : decode cX11_safe 38 = .ok (.ireturn, 1) := by decide +kernel
set_option maxRecDepth 20000 in
theorem ggX11_back_X0_takeBack : GoodIn wsX11_back wsX0_takeBack := goodIn_r _ [8, 9, 10, 11, 12, 13, 14, 15, 16, 17, 18, 19, 20, 21, 22, 23, 46, 47, 48, 49, 50, 51] (by decide +kernel) (by decide +kernel)
set_option maxRecDepth 20000 in
theorem gX11_back_X0_takeBack : GoodIn wsX11_back (wsV RX11 188 RX0 yX0_takeBack wsX0_takeBack) := goodIn_app (goodIn_of _ (by decide +kernel)) ggX11_back_X0_takeBack
set_option maxRecDepth 20000 in
theorem ggX11_back_X1_forgetFreshness : GoodIn wsX11_back wsX1_forgetFreshness := goodIn_r _ [28, 29, 52, 53, 54, 55, 56, 57, 58, 59, 60, 61, 62, 63, 64, 65, 66, 67, 68, 69, 70, 71] (by decide +kernel) (by decide +kernel)
set_option maxRecDepth 20000 in
theorem gX11_back_X1_forgetFreshness : GoodIn wsX11_back (wsV RX11 143 RX1 yX1_forgetFreshness wsX1_forgetFreshness) := goodIn_app (goodIn_of _ (by decide +kernel)) ggX11_back_X1_forgetFreshness
set_option maxRecDepth 20000 in
theorem ggX11_back_X0_length : GoodIn wsX11_back wsX0_length := goodIn_r _ [33, 9, 46, 47, 48, 49] (by decide +kernel) (by decide +kernel)
set_option maxRecDepth 20000 in
theorem gX11_back_X0_length : GoodIn wsX11_back (wsV RX11 151 RX0 yX0_length wsX0_length) := goodIn_app (goodIn_of _ (by decide +kernel)) ggX11_back_X0_length
theorem dX11_back_0 : decode cX11_back 0 = .ok (.aload_n 0, 1) := by decide +kernel
theorem dX11_back_1 : decode cX11_back 1 = .ok (.getfield 59, 3) := by decide +kernel
theorem dX11_back_4 : decode cX11_back 4 = .ok (.aload_n 0, 1) := by decide +kernel
theorem dX11_back_5 : decode cX11_back 5 = .ok (.getfield 34, 3) := by decide +kernel
theorem dX11_back_8 : decode cX11_back 8 = .ok (.invokevirtual 188, 3) := by decide +kernel
theorem dX11_back_11 : decode cX11_back 11 = .ok (.ifCond .ne 5, 3) := by decide +kernel
theorem dX11_back_14 : decode cX11_back 14 = .ok (.iconst (-1), 1) := by decide +kernel
theorem dX11_back_15 : decode cX11_back 15 = .ok (.ireturn, 1) := by decide +kernel
theorem dX11_back_16 : decode cX11_back 16 = .ok (.aload_n 0, 1) := by decide +kernel
theorem dX11_back_17 : decode cX11_back 17 = .ok (.getfield 86, 3) := by decide +kernel
theorem dX11_back_20 : decode cX11_back 20 = .ok (.invokevirtual 143, 3) := by decide +kernel
theorem dX11_back_23 : decode cX11_back 23 = .ok (.aload_n 0, 1) := by decide +kernel
theorem dX11_back_24 : decode cX11_back 24 = .ok (.getfield 59, 3) := by decide +kernel
theorem dX11_back_27 : decode cX11_back 27 = .ok (.invokevirtual 151, 3) := by decide +kernel
theorem dX11_back_30 : decode cX11_back 30 = .ok (.ireturn, 1) := by decide +kernel
set_option maxRecDepth 20000 in
theorem ggX11_list_X2_known : GoodIn wsX11_list wsX2_known := goodIn_r _ [7] (by decide +kernel) (by decide +kernel)
set_option maxRecDepth 20000 in
theorem gX11_list_X2_known : GoodIn wsX11_list (va_wsS RX11 117 yX2_known wsX2_known) := goodIn_app (goodIn_of _ (by decide +kernel)) ggX11_list_X2_known
set_option maxRecDepth 20000 in
theorem ggX11_list_X4_tell : GoodIn wsX11_list wsX4_tell := goodIn_r _ [12, 13, 14, 15, 38, 39, 40, 41] (by decide +kernel) (by decide +kernel)
set_option maxRecDepth 20000 in
theorem gX11_list_X4_tell : GoodIn wsX11_list (wsV RX11 191 RX4 yX4_tell wsX4_tell) := goodIn_app (goodIn_of _ (by decide +kernel)) ggX11_list_X4_tell
set_option maxRecDepth 20000 in
theorem ggX11_list_X1_forgetFreshness : GoodIn wsX11_list wsX1_forgetFreshness := goodIn_r _ [20, 21, 42, 43, 44, 45, 46, 47, 48, 49, 50, 51, 52, 53, 54, 55, 56, 57, 58, 59, 60, 61] (by decide +kernel) (by decide +kernel)
set_option maxRecDepth 20000 in
theorem gX11_list_X1_forgetFreshness : GoodIn wsX11_list (wsV RX11 143 RX1 yX1_forgetFreshness wsX1_forgetFreshness) := goodIn_app (goodIn_of _ (by decide +kernel)) ggX11_list_X1_forgetFreshness
set_option maxRecDepth 20000 in
theorem ggX11_list_X4_length : GoodIn wsX11_list wsX4_length := goodIn_r _ [25, 13, 38, 39, 40, 41] (by decide +kernel) (by decide +kernel)
set_option maxRecDepth 20000 in
theorem gX11_list_X4_length : GoodIn wsX11_list (wsV RX11 150 RX4 yX4_length wsX4_length) := goodIn_app (goodIn_of _ (by decide +kernel)) ggX11_list_X4_length
theorem dX11_list_0 : decode cX11_list 0 = .ok (.aload_n 0, 1) := by decide +kernel
theorem dX11_list_1 : decode cX11_list 1 = .ok (.iconst (-1), 1) := by decide +kernel
theorem dX11_list_2 : decode cX11_list 2 = .ok (.putfield 90, 3) := by decide +kernel
theorem dX11_list_5 : decode cX11_list 5 = .ok (.iload_n 1, 1) := by decide +kernel
theorem dX11_list_6 : decode cX11_list 6 = .ok (.invokestatic 117, 3) := by decide +kernel
theorem dX11_list_9 : decode cX11_list 9 = .ok (.ifCond .eq 22, 3) := by decide +kernel
theorem dX11_list_12 : decode cX11_list 12 = .ok (.iload_n 2, 1) := by decide +kernel
theorem dX11_list_13 : decode cX11_list 13 = .ok (.invokestatic 117, 3) := by decide +kernel
theorem dX11_list_16 : decode cX11_list 16 = .ok (.ifCond .eq 15, 3) := by decide +kernel
theorem dX11_list_19 : decode cX11_list 19 = .ok (.aload_n 0, 1) := by decide +kernel
theorem dX11_list_20 : decode cX11_list 20 = .ok (.getfield 48, 3) := by decide +kernel
theorem dX11_list_23 : decode cX11_list 23 = .ok (.iload_n 1, 1) := by decide +kernel
theorem dX11_list_24 : decode cX11_list 24 = .ok (.iload_n 2, 1) := by decide +kernel
theorem dX11_list_25 : decode cX11_list 25 = .ok (.invokevirtual 191, 3) := by decide +kernel
theorem dX11_list_28 : decode cX11_list 28 = .ok (.ifCond .ne 5, 3) := by decide +kernel
theorem dX11_list_31 : decode cX11_list 31 = .ok (.iconst (-1), 1) := by decide +kernel
theorem dX11_list_32 : decode cX11_list 32 = .ok (.ireturn, 1) := by decide +kernel
theorem dX11_list_33 : decode cX11_list 33 = .ok (.aload_n 0, 1) := by decide +kernel
theorem dX11_list_34 : decode cX11_list 34 = .ok (.getfield 86, 3) := by decide +kernel
theorem dX11_list_37 : decode cX11_list 37 = .ok (.invokevirtual 143, 3) := by decide +kernel
theorem dX11_list_40 : decode cX11_list 40 = .ok (.aload_n 0, 1) := by decide +kernel
theorem dX11_list_41 : decode cX11_list 41 = .ok (.getfield 48, 3) := by decide +kernel
theorem dX11_list_44 : decode cX11_list 44 = .ok (.invokevirtual 150, 3) := by decide +kernel
theorem dX11_list_47 : decode cX11_list 47 = .ok (.iconst 1, 1) := by decide +kernel
theorem dX11_list_48 : decode cX11_list 48 = .ok (.isub, 1) := by decide +kernel
theorem dX11_list_49 : decode cX11_list 49 = .ok (.ireturn, 1) := by decide +kernel
set_option maxRecDepth 20000 in
theorem ggX11_unlist_X4_length : GoodIn wsX11_unlist wsX4_length := goodIn_r _ [7, 8, 31, 32, 33, 34] (by decide +kernel) (by decide +kernel)
set_option maxRecDepth 20000 in
theorem gX11_unlist_X4_length : GoodIn wsX11_unlist (wsV RX11 150 RX4 yX4_length wsX4_length) := goodIn_app (goodIn_of _ (by decide +kernel)) ggX11_unlist_X4_length
set_option maxRecDepth 20000 in
theorem ggX11_unlist_X4_empty : GoodIn wsX11_unlist wsX4_empty := goodIn_r _ [12, 8, 31, 32, 33, 34] (by decide +kernel) (by decide +kernel)
set_option maxRecDepth 20000 in
theorem gX11_unlist_X4_empty : GoodIn wsX11_unlist (wsV RX11 193 RX4 yX4_empty wsX4_empty) := goodIn_app (goodIn_of _ (by decide +kernel)) ggX11_unlist_X4_empty
set_option maxRecDepth 20000 in
theorem ggX11_unlist_X1_forgetFreshness : GoodIn wsX11_unlist wsX1_forgetFreshness := goodIn_r _ [17, 18, 35, 36, 37, 38, 39, 40, 41, 42, 43, 44, 45, 46, 47, 48, 49, 50, 51, 52, 53, 54] (by decide +kernel) (by decide +kernel)
set_option maxRecDepth 20000 in
theorem gX11_unlist_X1_forgetFreshness : GoodIn wsX11_unlist (wsV RX11 143 RX1 yX1_forgetFreshness wsX1_forgetFreshness) := goodIn_app (goodIn_of _ (by decide +kernel)) ggX11_unlist_X1_forgetFreshness
theorem dX11_unlist_0 : decode cX11_unlist 0 = .ok (.aload_n 0, 1) := by decide +kernel
theorem dX11_unlist_1 : decode cX11_unlist 1 = .ok (.getfield 48, 3) := by decide +kernel
theorem dX11_unlist_4 : decode cX11_unlist 4 = .ok (.invokevirtual 150, 3) := by decide +kernel
theorem dX11_unlist_7 : decode cX11_unlist 7 = .ok (.istore_n 1, 1) := by decide +kernel
theorem dX11_unlist_8 : decode cX11_unlist 8 = .ok (.aload_n 0, 1) := by decide +kernel
theorem dX11_unlist_9 : decode cX11_unlist 9 = .ok (.getfield 48, 3) := by decide +kernel
theorem dX11_unlist_12 : decode cX11_unlist 12 = .ok (.invokevirtual 193, 3) := by decide +kernel
theorem dX11_unlist_15 : decode cX11_unlist 15 = .ok (.aload_n 0, 1) := by decide +kernel
theorem dX11_unlist_16 : decode cX11_unlist 16 = .ok (.getfield 86, 3) := by decide +kernel
theorem dX11_unlist_19 : decode cX11_unlist 19 = .ok (.invokevirtual 143, 3) := by decide +kernel
theorem dX11_unlist_22 : decode cX11_unlist 22 = .ok (.iload_n 1, 1) := by decide +kernel
theorem dX11_unlist_23 : decode cX11_unlist 23 = .ok (.ireturn, 1) := by decide +kernel
set_option maxRecDepth 20000 in
theorem ggX11_rows_X9_find : GoodIn wsX11_rows wsX9_find := goodIn_r _ [8, 9, 10, 11, 12, 13, 14, 15, 16, 17, 18, 19, 20, 21, 22, 23, 24, 25, 26, 27, 28, 29, 30, 31, 32, 33, 34, 35, 36, 37, 38, 39, 40, 41, 42, 43, 44, 45, 46, 47, 48, 49, 50, 51, 52, 53, 54, 55, 56, 57, 58, 59, 60, 61, 62, 63, 64, 65, 66, 67, 68, 69, 70, 71, 72, 73, 74, 75, 76, 77, 78, 79, 80, 81, 82, 83, 84, 85, 86, 87, 88, 89, 90, 91, 92, 93, 94, 95, 96, 97, 98, 99, 100, 101, 102, 103, 104, 105, 106, 107, 108, 109, 110, 111, 112, 113, 114, 115, 116, 117, 118, 119, 120, 121, 122, 123, 124, 125, 126, 127, 128, 129, 130, 131, 132, 133, 134, 135, 136, 137, 138, 139, 140, 7, 141, 142, 143, 144, 145, 146, 147, 148, 149, 150, 151, 152, 153, 154, 155, 156, 157, 158, 159, 160, 161, 162, 163, 164, 165, 166, 167, 168, 169, 170, 171, 172, 173, 174, 175, 176, 177, 198, 199, 200, 201, 202, 203, 204, 205, 206, 207, 208, 209, 210, 211, 212, 213, 214, 215, 216, 217, 218, 219, 220, 221, 222, 223, 224, 225, 226, 227] (by decide +kernel) (by decide +kernel)
set_option maxRecDepth 20000 in
theorem gX11_rows_X9_find : GoodIn wsX11_rows (wsV RX11 194 RX9 yX9_find wsX9_find) := goodIn_app (goodIn_of _ (by decide +kernel)) ggX11_rows_X9_find
set_option maxRecDepth 20000 in
theorem ggX11_rows_X9_keepFound : GoodIn wsX11_rows wsX9_keepFound := goodIn_r _ [181, 182, 9, 183, 184, 143, 185, 177, 198, 199, 200, 201, 202, 203, 204, 205, 206, 207, 208, 209] (by decide +kernel) (by decide +kernel)
set_option maxRecDepth 20000 in
theorem gX11_rows_X9_keepFound : GoodIn wsX11_rows (wsV RX11 198 RX9 yX9_keepFound wsX9_keepFound) := goodIn_app (goodIn_of _ (by decide +kernel)) ggX11_rows_X9_keepFound
theorem dX11_rows_0 : decode cX11_rows 0 = .ok (.aload_n 0, 1) := by decide +kernel
theorem dX11_rows_1 : decode cX11_rows 1 = .ok (.iconst (-1), 1) := by decide +kernel
theorem dX11_rows_2 : decode cX11_rows 2 = .ok (.putfield 90, 3) := by decide +kernel
theorem dX11_rows_5 : decode cX11_rows 5 = .ok (.iload_n 1, 1) := by decide +kernel
theorem dX11_rows_6 : decode cX11_rows 6 = .ok (.iconst 1, 1) := by decide +kernel
theorem dX11_rows_7 : decode cX11_rows 7 = .ok (.if_icmp .lt 8, 3) := by decide +kernel
theorem dX11_rows_10 : decode cX11_rows 10 = .ok (.iload_n 1, 1) := by decide +kernel
theorem dX11_rows_11 : decode cX11_rows 11 = .ok (.iconst 3, 1) := by decide +kernel
theorem dX11_rows_12 : decode cX11_rows 12 = .ok (.if_icmp .le 5, 3) := by decide +kernel
theorem dX11_rows_15 : decode cX11_rows 15 = .ok (.iconst (-1), 1) := by decide +kernel
theorem dX11_rows_16 : decode cX11_rows 16 = .ok (.ireturn, 1) := by decide +kernel
theorem dX11_rows_17 : decode cX11_rows 17 = .ok (.aload_n 0, 1) := by decide +kernel
theorem dX11_rows_18 : decode cX11_rows 18 = .ok (.getfield 68, 3) := by decide +kernel
theorem dX11_rows_21 : decode cX11_rows 21 = .ok (.iload_n 1, 1) := by decide +kernel
theorem dX11_rows_22 : decode cX11_rows 22 = .ok (.aload_n 0, 1) := by decide +kernel
theorem dX11_rows_23 : decode cX11_rows 23 = .ok (.getfield 34, 3) := by decide +kernel
theorem dX11_rows_26 : decode cX11_rows 26 = .ok (.invokevirtual 194, 3) := by decide +kernel
theorem dX11_rows_29 : decode cX11_rows 29 = .ok (.aload_n 0, 1) := by decide +kernel
theorem dX11_rows_30 : decode cX11_rows 30 = .ok (.getfield 68, 3) := by decide +kernel
theorem dX11_rows_33 : decode cX11_rows 33 = .ok (.invokevirtual 198, 3) := by decide +kernel
theorem dX11_rows_36 : decode cX11_rows 36 = .ok (.ireturn, 1) := by decide +kernel
set_option maxRecDepth 20000 in
theorem ggX11_row_X9_told : GoodIn wsX11_row wsX9_told := goodIn_r _ [6, 7, 8, 9, 10, 23, 24, 25, 26, 27, 28, 29, 30, 31, 32, 33, 34] (by decide +kernel) (by decide +kernel)
set_option maxRecDepth 20000 in
theorem gX11_row_X9_told : GoodIn wsX11_row (wsV RX11 201 RX9 yX9_told wsX9_told) := goodIn_app (goodIn_of _ (by decide +kernel)) ggX11_row_X9_told
theorem dX11_row_0 : decode cX11_row 0 = .ok (.aload_n 0, 1) := by decide +kernel
theorem dX11_row_1 : decode cX11_row 1 = .ok (.getfield 68, 3) := by decide +kernel
theorem dX11_row_4 : decode cX11_row 4 = .ok (.iload_n 1, 1) := by decide +kernel
theorem dX11_row_5 : decode cX11_row 5 = .ok (.iload_n 2, 1) := by decide +kernel
theorem dX11_row_6 : decode cX11_row 6 = .ok (.invokevirtual 201, 3) := by decide +kernel
theorem dX11_row_9 : decode cX11_row 9 = .ok (.ireturn, 1) := by decide +kernel
set_option maxRecDepth 20000 in
theorem ggX11_cost_X11_isLetter : GoodIn wsX11_cost wsX11_isLetter := goodIn_r _ [6, 7, 8, 9] (by decide +kernel) (by decide +kernel)
set_option maxRecDepth 20000 in
theorem gX11_cost_X11_isLetter : GoodIn wsX11_cost (va_wsS RX11 205 yX11_isLetter wsX11_isLetter) := goodIn_app (goodIn_of _ (by decide +kernel)) ggX11_cost_X11_isLetter
set_option maxRecDepth 20000 in
theorem ggX11_cost_X3_tell : GoodIn wsX11_cost wsX3_tell := goodIn_r _ [14, 15, 16, 17, 18, 19, 20, 13, 21, 22, 23, 24, 25, 44, 45, 46] (by decide +kernel) (by decide +kernel)
set_option maxRecDepth 20000 in
theorem gX11_cost_X3_tell : GoodIn wsX11_cost (wsV RX11 208 RX3 yX3_tell wsX3_tell) := goodIn_app (goodIn_of _ (by decide +kernel)) ggX11_cost_X3_tell
set_option maxRecDepth 20000 in
theorem ggX11_cost_X1_forgetFreshness : GoodIn wsX11_cost wsX1_forgetFreshness := goodIn_r _ [30, 31, 47, 48, 49, 50, 51, 52, 53, 54, 55, 56, 57, 58, 59, 60, 61, 62, 63, 64, 65, 66] (by decide +kernel) (by decide +kernel)
set_option maxRecDepth 20000 in
theorem gX11_cost_X1_forgetFreshness : GoodIn wsX11_cost (wsV RX11 143 RX1 yX1_forgetFreshness wsX1_forgetFreshness) := goodIn_app (goodIn_of _ (by decide +kernel)) ggX11_cost_X1_forgetFreshness
theorem dX11_cost_0 : decode cX11_cost 0 = .ok (.iload_n 1, 1) := by decide +kernel
theorem dX11_cost_1 : decode cX11_cost 1 = .ok (.invokestatic 205, 3) := by decide +kernel
theorem dX11_cost_4 : decode cX11_cost 4 = .ok (.ifCond .eq 23, 3) := by decide +kernel
theorem dX11_cost_7 : decode cX11_cost 7 = .ok (.iload_n 2, 1) := by decide +kernel
theorem dX11_cost_8 : decode cX11_cost 8 = .ok (.invokestatic 205, 3) := by decide +kernel
theorem dX11_cost_11 : decode cX11_cost 11 = .ok (.ifCond .eq 16, 3) := by decide +kernel
theorem dX11_cost_14 : decode cX11_cost 14 = .ok (.aload_n 0, 1) := by decide +kernel
theorem dX11_cost_15 : decode cX11_cost 15 = .ok (.getfield 52, 3) := by decide +kernel
theorem dX11_cost_18 : decode cX11_cost 18 = .ok (.iload_n 1, 1) := by decide +kernel
theorem dX11_cost_19 : decode cX11_cost 19 = .ok (.iload_n 2, 1) := by decide +kernel
theorem dX11_cost_20 : decode cX11_cost 20 = .ok (.iload_n 3, 1) := by decide +kernel
theorem dX11_cost_21 : decode cX11_cost 21 = .ok (.invokevirtual 208, 3) := by decide +kernel
theorem dX11_cost_24 : decode cX11_cost 24 = .ok (.ifCond .ne 5, 3) := by decide +kernel
theorem dX11_cost_27 : decode cX11_cost 27 = .ok (.iconst 0, 1) := by decide +kernel
theorem dX11_cost_28 : decode cX11_cost 28 = .ok (.ireturn, 1) := by decide +kernel
theorem dX11_cost_29 : decode cX11_cost 29 = .ok (.aload_n 0, 1) := by decide +kernel
theorem dX11_cost_30 : decode cX11_cost 30 = .ok (.getfield 86, 3) := by decide +kernel
theorem dX11_cost_33 : decode cX11_cost 33 = .ok (.invokevirtual 143, 3) := by decide +kernel
theorem dX11_cost_36 : decode cX11_cost 36 = .ok (.iconst 1, 1) := by decide +kernel
theorem dX11_cost_37 : decode cX11_cost 37 = .ok (.ireturn, 1) := by decide +kernel
set_option maxRecDepth 20000 in
theorem ggX11_worth_X3_ofText : GoodIn wsX11_worth wsX3_ofText := goodIn_r _ [7, 8, 9, 10, 11, 12, 13, 14, 15, 16, 17, 18, 19, 20, 21, 6, 22, 23, 24, 25, 26, 27, 28, 29, 30, 31, 32, 33, 34, 35, 36, 37, 38, 39, 52, 53, 54, 55, 56] (by decide +kernel) (by decide +kernel)
set_option maxRecDepth 20000 in
theorem gX11_worth_X3_ofText : GoodIn wsX11_worth (wsV RX11 211 RX3 yX3_ofText wsX3_ofText) := goodIn_app (goodIn_of _ (by decide +kernel)) ggX11_worth_X3_ofText
theorem dX11_worth_0 : decode cX11_worth 0 = .ok (.aload_n 0, 1) := by decide +kernel
theorem dX11_worth_1 : decode cX11_worth 1 = .ok (.getfield 52, 3) := by decide +kernel
theorem dX11_worth_4 : decode cX11_worth 4 = .ok (.aload_n 0, 1) := by decide +kernel
theorem dX11_worth_5 : decode cX11_worth 5 = .ok (.getfield 34, 3) := by decide +kernel
theorem dX11_worth_8 : decode cX11_worth 8 = .ok (.invokevirtual 211, 3) := by decide +kernel
theorem dX11_worth_11 : decode cX11_worth 11 = .ok (.ireturn, 1) := by decide +kernel
set_option maxRecDepth 20000 in
theorem ggX11_mend_X9_find : GoodIn wsX11_mend wsX9_find := goodIn_r _ [11, 12, 13, 14, 15, 16, 17, 18, 19, 20, 21, 22, 23, 24, 25, 26, 27, 28, 29, 30, 31, 32, 33, 34, 35, 36, 37, 38, 39, 40, 41, 42, 43, 44, 45, 46, 47, 48, 49, 50, 51, 52, 53, 54, 55, 56, 57, 58, 59, 60, 61, 62, 63, 64, 65, 66, 67, 68, 69, 70, 71, 72, 73, 74, 75, 76, 77, 78, 79, 80, 81, 82, 83, 84, 85, 86, 87, 88, 89, 90, 91, 92, 93, 94, 95, 96, 97, 98, 99, 100, 101, 102, 103, 104, 105, 106, 107, 108, 109, 110, 111, 112, 113, 114, 115, 116, 117, 118, 119, 120, 121, 122, 123, 124, 125, 126, 127, 128, 129, 130, 131, 132, 133, 134, 135, 136, 137, 138, 139, 140, 141, 142, 143, 10, 144, 145, 146, 147, 148, 149, 150, 151, 152, 153, 154, 155, 156, 157, 158, 159, 160, 161, 162, 163, 164, 165, 166, 167, 168, 169, 170, 171, 172, 173, 174, 175, 176, 177, 178, 179, 180, 250, 251, 252, 253, 254, 255, 256, 257, 258, 259, 260, 261, 262, 263, 264, 265, 266, 267, 268, 269, 270, 271, 272, 273, 274, 275, 276, 277, 278, 279] (by decide +kernel) (by decide +kernel)
set_option maxRecDepth 20000 in
theorem gX11_mend_X9_find : GoodIn wsX11_mend (wsV RX11 194 RX9 yX9_find wsX9_find) := goodIn_app (goodIn_of _ (by decide +kernel)) ggX11_mend_X9_find
set_option maxRecDepth 20000 in
theorem ggX11_mend_X9_cheapest : GoodIn wsX11_mend wsX9_cheapest := goodIn_r _ [184, 12, 250, 251, 252, 253, 254, 255, 256, 257, 258, 259, 260, 261] (by decide +kernel) (by decide +kernel)
set_option maxRecDepth 20000 in
theorem gX11_mend_X9_cheapest : GoodIn wsX11_mend (wsV RX11 215 RX9 yX9_cheapest wsX9_cheapest) := goodIn_app (goodIn_of _ (by decide +kernel)) ggX11_mend_X9_cheapest
set_option maxRecDepth 20000 in
theorem ggX11_mend_X3_ofText : GoodIn wsX11_mend wsX3_ofText := goodIn_r _ [151, 152, 53, 54, 49, 55, 51, 153, 57, 58, 59, 60, 154, 155, 156, 150, 157, 158, 159, 160, 161, 162, 163, 164, 165, 166, 167, 168, 169, 170, 171, 172, 173, 174, 269, 270, 277, 278, 279] (by decide +kernel) (by decide +kernel)
set_option maxRecDepth 20000 in
theorem gX11_mend_X3_ofText : GoodIn wsX11_mend (wsV RX11 211 RX3 yX3_ofText wsX3_ofText) := goodIn_app (goodIn_of _ (by decide +kernel)) ggX11_mend_X3_ofText
set_option maxRecDepth 20000 in
theorem ggX11_mend_X9_costAt : GoodIn wsX11_mend wsX9_costAt := goodIn_r _ [189, 12, 250, 251, 252, 253, 254, 255, 256, 257, 258, 259, 260, 261] (by decide +kernel) (by decide +kernel)
set_option maxRecDepth 20000 in
theorem gX11_mend_X9_costAt : GoodIn wsX11_mend (wsV RX11 218 RX9 yX9_costAt wsX9_costAt) := goodIn_app (goodIn_of _ (by decide +kernel)) ggX11_mend_X9_costAt
set_option maxRecDepth 20000 in
theorem ggX11_mend_X9_build : GoodIn wsX11_mend wsX9_build := goodIn_r _ [193, 14, 180, 13, 15, 194, 195, 196, 49, 197, 51, 198, 199, 200, 201, 60, 202, 203, 204, 205, 27, 28, 29, 24, 30, 26, 31, 32, 33, 34, 35, 36, 37, 38, 39, 40, 41, 42, 43, 44, 45, 46, 47, 48, 50, 52, 53, 54, 55, 56, 57, 58, 59, 61, 62, 63, 64, 65, 66, 67, 68, 69, 70, 71, 72, 73, 74, 75, 76, 77, 78, 79, 80, 81, 82, 83, 84, 85, 86, 87, 88, 89, 90, 91, 92, 93, 94, 95, 96, 97, 98, 99, 100, 101, 102, 103, 104, 105, 106, 107, 108, 109, 110, 111, 112, 113, 114, 115, 116, 117, 118, 119, 120, 121, 122, 123, 124, 125, 126, 127, 128, 129, 130, 131, 132, 133, 134, 135, 136, 137, 138, 139, 140, 250, 251, 252, 253, 254, 255, 256, 257, 258, 259, 260, 261, 269, 270, 262, 263, 264, 265, 266, 267, 268, 271, 272, 273, 274, 275, 276] (by decide +kernel) (by decide +kernel)
set_option maxRecDepth 20000 in
theorem gX11_mend_X9_build : GoodIn wsX11_mend (wsV RX11 221 RX9 yX9_build wsX9_build) := goodIn_app (goodIn_of _ (by decide +kernel)) ggX11_mend_X9_build
set_option maxRecDepth 20000 in
theorem ggX11_mend_X11_become : GoodIn wsX11_mend wsX11_become := goodIn_r _ [209, 210, 4, 211, 212, 213, 214, 215, 216, 217, 218, 103, 219, 220, 221, 222, 223, 224, 53, 54, 49, 55, 51, 225, 57, 58, 59, 60, 226, 195, 196, 197, 198, 199, 200, 201, 202, 203, 204, 205, 227, 228, 229, 230, 231, 232, 233, 238, 239, 240, 241, 242, 243, 244, 245, 246, 247, 248, 249, 280, 281, 282, 283, 269, 270, 284, 285, 286, 287, 288, 289, 290, 291, 292, 293, 294, 295, 296, 297, 298, 299, 300, 301, 302, 303] (by decide +kernel) (by decide +kernel)
set_option maxRecDepth 20000 in
theorem gX11_mend_X11_become : GoodIn wsX11_mend (wsV RX11 113 RX11 yX11_become wsX11_become) := goodIn_app (goodIn_of _ (by decide +kernel)) ggX11_mend_X11_become
set_option maxRecDepth 20000 in
theorem ggX11_mend_X9_numberOf : GoodIn wsX11_mend wsX9_numberOf := goodIn_r _ [237, 12, 250, 251, 252, 253, 254, 255, 256, 257, 258, 259, 260, 261] (by decide +kernel) (by decide +kernel)
set_option maxRecDepth 20000 in
theorem gX11_mend_X9_numberOf : GoodIn wsX11_mend (wsV RX11 224 RX9 yX9_numberOf wsX9_numberOf) := goodIn_app (goodIn_of _ (by decide +kernel)) ggX11_mend_X9_numberOf
theorem dX11_mend_0 : decode cX11_mend 0 = .ok (.aload_n 0, 1) := by decide +kernel
theorem dX11_mend_1 : decode cX11_mend 1 = .ok (.iconst (-1), 1) := by decide +kernel
theorem dX11_mend_2 : decode cX11_mend 2 = .ok (.putfield 90, 3) := by decide +kernel
theorem dX11_mend_5 : decode cX11_mend 5 = .ok (.iload_n 1, 1) := by decide +kernel
theorem dX11_mend_6 : decode cX11_mend 6 = .ok (.iconst 1, 1) := by decide +kernel
theorem dX11_mend_7 : decode cX11_mend 7 = .ok (.if_icmp .lt 19, 3) := by decide +kernel
theorem dX11_mend_10 : decode cX11_mend 10 = .ok (.iload_n 1, 1) := by decide +kernel
theorem dX11_mend_11 : decode cX11_mend 11 = .ok (.iconst 3, 1) := by decide +kernel
theorem dX11_mend_12 : decode cX11_mend 12 = .ok (.if_icmp .gt 14, 3) := by decide +kernel
theorem dX11_mend_15 : decode cX11_mend 15 = .ok (.iload_n 2, 1) := by decide +kernel
theorem dX11_mend_16 : decode cX11_mend 16 = .ok (.iconst 1, 1) := by decide +kernel
theorem dX11_mend_17 : decode cX11_mend 17 = .ok (.if_icmp .lt 9, 3) := by decide +kernel
theorem dX11_mend_20 : decode cX11_mend 20 = .ok (.iload_n 2, 1) := by decide +kernel
theorem dX11_mend_21 : decode cX11_mend 21 = .ok (.ldc 214, 2) := by decide +kernel
theorem dX11_mend_23 : decode cX11_mend 23 = .ok (.if_icmp .le 5, 3) := by decide +kernel
theorem dX11_mend_26 : decode cX11_mend 26 = .ok (.iconst (-1), 1) := by decide +kernel
theorem dX11_mend_27 : decode cX11_mend 27 = .ok (.ireturn, 1) := by decide +kernel
theorem dX11_mend_28 : decode cX11_mend 28 = .ok (.aload_n 0, 1) := by decide +kernel
theorem dX11_mend_29 : decode cX11_mend 29 = .ok (.getfield 68, 3) := by decide +kernel
theorem dX11_mend_32 : decode cX11_mend 32 = .ok (.iload_n 1, 1) := by decide +kernel
theorem dX11_mend_33 : decode cX11_mend 33 = .ok (.aload_n 0, 1) := by decide +kernel
theorem dX11_mend_34 : decode cX11_mend 34 = .ok (.getfield 34, 3) := by decide +kernel
theorem dX11_mend_37 : decode cX11_mend 37 = .ok (.invokevirtual 194, 3) := by decide +kernel
theorem dX11_mend_40 : decode cX11_mend 40 = .ok (.aload_n 0, 1) := by decide +kernel
theorem dX11_mend_41 : decode cX11_mend 41 = .ok (.getfield 68, 3) := by decide +kernel
theorem dX11_mend_44 : decode cX11_mend 44 = .ok (.invokevirtual 215, 3) := by decide +kernel
theorem dX11_mend_47 : decode cX11_mend 47 = .ok (.istore_n 3, 1) := by decide +kernel
theorem dX11_mend_48 : decode cX11_mend 48 = .ok (.iload_n 3, 1) := by decide +kernel
theorem dX11_mend_49 : decode cX11_mend 49 = .ok (.iconst (-1), 1) := by decide +kernel
theorem dX11_mend_50 : decode cX11_mend 50 = .ok (.if_icmp .eq 27, 3) := by decide +kernel
theorem dX11_mend_53 : decode cX11_mend 53 = .ok (.aload_n 0, 1) := by decide +kernel
theorem dX11_mend_54 : decode cX11_mend 54 = .ok (.getfield 52, 3) := by decide +kernel
theorem dX11_mend_57 : decode cX11_mend 57 = .ok (.aload_n 0, 1) := by decide +kernel
theorem dX11_mend_58 : decode cX11_mend 58 = .ok (.getfield 34, 3) := by decide +kernel
theorem dX11_mend_61 : decode cX11_mend 61 = .ok (.invokevirtual 211, 3) := by decide +kernel
theorem dX11_mend_64 : decode cX11_mend 64 = .ok (.aload_n 0, 1) := by decide +kernel
theorem dX11_mend_65 : decode cX11_mend 65 = .ok (.getfield 68, 3) := by decide +kernel
theorem dX11_mend_68 : decode cX11_mend 68 = .ok (.iload_n 3, 1) := by decide +kernel
theorem dX11_mend_69 : decode cX11_mend 69 = .ok (.invokevirtual 218, 3) := by decide +kernel
theorem dX11_mend_72 : decode cX11_mend 72 = .ok (.isub, 1) := by decide +kernel
theorem dX11_mend_73 : decode cX11_mend 73 = .ok (.iload_n 2, 1) := by decide +kernel
theorem dX11_mend_74 : decode cX11_mend 74 = .ok (.if_icmp .ge 5, 3) := by decide +kernel
theorem dX11_mend_77 : decode cX11_mend 77 = .ok (.iconst (-1), 1) := by decide +kernel
theorem dX11_mend_78 : decode cX11_mend 78 = .ok (.ireturn, 1) := by decide +kernel
theorem dX11_mend_79 : decode cX11_mend 79 = .ok (.aload_n 0, 1) := by decide +kernel
theorem dX11_mend_80 : decode cX11_mend 80 = .ok (.getfield 68, 3) := by decide +kernel
theorem dX11_mend_83 : decode cX11_mend 83 = .ok (.iload_n 3, 1) := by decide +kernel
theorem dX11_mend_84 : decode cX11_mend 84 = .ok (.aload_n 0, 1) := by decide +kernel
theorem dX11_mend_85 : decode cX11_mend 85 = .ok (.getfield 34, 3) := by decide +kernel
theorem dX11_mend_88 : decode cX11_mend 88 = .ok (.aload_n 0, 1) := by decide +kernel
theorem dX11_mend_89 : decode cX11_mend 89 = .ok (.getfield 37, 3) := by decide +kernel
theorem dX11_mend_92 : decode cX11_mend 92 = .ok (.invokevirtual 221, 3) := by decide +kernel
theorem dX11_mend_95 : decode cX11_mend 95 = .ok (.ifCond .ne 5, 3) := by decide +kernel
theorem dX11_mend_98 : decode cX11_mend 98 = .ok (.iconst (-1), 1) := by decide +kernel
theorem dX11_mend_99 : decode cX11_mend 99 = .ok (.ireturn, 1) := by decide +kernel
theorem dX11_mend_100 : decode cX11_mend 100 = .ok (.aload_n 0, 1) := by decide +kernel
theorem dX11_mend_101 : decode cX11_mend 101 = .ok (.aload_n 0, 1) := by decide +kernel
theorem dX11_mend_102 : decode cX11_mend 102 = .ok (.getfield 37, 3) := by decide +kernel
theorem dX11_mend_105 : decode cX11_mend 105 = .ok (.invokevirtual 113, 3) := by decide +kernel
theorem dX11_mend_108 : decode cX11_mend 108 = .ok (.pop, 1) := by decide +kernel
theorem dX11_mend_109 : decode cX11_mend 109 = .ok (.aload_n 0, 1) := by decide +kernel
theorem dX11_mend_110 : decode cX11_mend 110 = .ok (.getfield 68, 3) := by decide +kernel
theorem dX11_mend_113 : decode cX11_mend 113 = .ok (.iload_n 3, 1) := by decide +kernel
theorem dX11_mend_114 : decode cX11_mend 114 = .ok (.invokevirtual 224, 3) := by decide +kernel
theorem dX11_mend_117 : decode cX11_mend 117 = .ok (.ireturn, 1) := by decide +kernel
set_option maxRecDepth 20000 in
theorem ggX11_parts_X5_length : GoodIn wsX11_parts wsX5_length := goodIn_r _ [9, 10, 292, 293] (by decide +kernel) (by decide +kernel)
set_option maxRecDepth 20000 in
theorem gX11_parts_X5_length : GoodIn wsX11_parts (wsV RX11 94 RX5 yX5_length wsX5_length) := goodIn_app (goodIn_of _ (by decide +kernel)) ggX11_parts_X5_length
set_option maxRecDepth 20000 in
theorem ggX11_parts_X6_find : GoodIn wsX11_parts wsX6_find := goodIn_r _ [15, 16, 17, 18, 19, 20, 21, 22, 23, 24, 6, 7, 8, 9, 10, 25, 26, 27, 14, 28, 29, 30, 31, 32, 33, 34, 35, 36, 37, 38, 39, 40, 41, 42, 43, 44, 45, 46, 47, 48, 49, 50, 51, 52, 53, 54, 55, 56, 57, 58, 59, 60, 61, 62, 63, 64, 65, 66, 67, 68, 69, 70, 71, 72, 73, 74, 75, 76, 77, 78, 79, 80, 81, 82, 83, 84, 85, 86, 87, 88, 89, 90, 91, 92, 93, 94, 95, 96, 97, 98, 99, 100, 101, 102, 103, 104, 105, 106, 107, 108, 109, 110, 111, 112, 113, 114, 115, 116, 117, 118, 119, 120, 121, 122, 123, 124, 125, 126, 127, 128, 129, 130, 131, 132, 133, 134, 135, 136, 137, 138, 139, 140, 141, 142, 143, 144, 145, 146, 147, 148, 149, 150, 151, 152, 153, 154, 155, 156, 157, 158, 159, 160, 161, 162, 163, 164, 165, 166, 167, 168, 169, 170, 171, 172, 173, 174, 175, 176, 177, 178, 179, 180, 181, 182, 183, 184, 185, 186, 187, 188, 189, 190, 191, 192, 193, 194, 195, 196, 197, 198, 199, 294, 295, 296, 297, 298, 299, 300, 301, 302, 303, 304, 305, 292, 293, 306, 307, 308, 309, 310, 311, 312, 313, 314, 315, 316, 317, 318, 319, 320, 321, 322, 323, 324] (by decide +kernel) (by decide +kernel)
set_option maxRecDepth 20000 in
theorem gX11_parts_X6_find : GoodIn wsX11_parts (wsV RX11 227 RX6 yX6_find wsX6_find) := goodIn_app (goodIn_of _ (by decide +kernel)) ggX11_parts_X6_find
set_option maxRecDepth 20000 in
theorem ggX11_parts_X6_build : GoodIn wsX11_parts wsX6_build := goodIn_r _ [203, 17, 18, 19, 20, 204, 61, 62, 205, 23, 206, 150, 151, 89, 90, 91, 8, 92, 10, 24, 6, 7, 9, 30, 31, 32, 33, 34, 207, 104, 105, 106, 208, 209, 210, 211, 212, 213, 214, 215, 216, 217, 218, 219, 220, 221, 222, 70, 223, 72, 224, 97, 138, 225, 226, 227, 228, 229, 230, 231, 232, 233, 234, 235, 236, 237, 238, 239, 240, 99, 100, 101, 102, 103, 107, 108, 109, 110, 111, 112, 113, 114, 115, 116, 117, 118, 119, 120, 121, 122, 123, 124, 125, 126, 127, 128, 129, 130, 131, 132, 133, 241, 242, 243, 244, 245, 246, 153, 154, 155, 156, 157, 158, 159, 160, 161, 162, 163, 164, 165, 166, 167, 168, 169, 170, 171, 172, 173, 174, 175, 176, 177, 178, 179, 180, 247, 182, 183, 248, 249, 186, 187, 250, 294, 295, 296, 297, 298, 299, 300, 301, 302, 303, 304, 305, 292, 293, 309, 310, 311, 312, 325, 326, 327, 319, 320, 321, 322, 323, 324] (by decide +kernel) (by decide +kernel)
set_option maxRecDepth 20000 in
theorem gX11_parts_X6_build : GoodIn wsX11_parts (wsV RX11 230 RX6 yX6_build wsX6_build) := goodIn_app (goodIn_of _ (by decide +kernel)) ggX11_parts_X6_build
set_option maxRecDepth 20000 in
theorem ggX11_parts_X11_become : GoodIn wsX11_parts wsX11_become := goodIn_r _ [254, 255, 2, 256, 257, 258, 259, 260, 261, 262, 18, 19, 20, 263, 264, 265, 266, 267, 6, 7, 8, 9, 10, 268, 31, 32, 33, 34, 269, 209, 210, 211, 212, 213, 214, 215, 216, 217, 218, 219, 270, 271, 272, 273, 274, 275, 5, 280, 281, 282, 283, 284, 285, 286, 287, 288, 289, 290, 291, 328, 329, 330, 331, 292, 293, 332, 333, 334, 335, 336, 337, 338, 339, 340, 341, 342, 343, 344, 345, 346, 347, 348, 349, 350, 351] (by decide +kernel) (by decide +kernel)
set_option maxRecDepth 20000 in
theorem gX11_parts_X11_become : GoodIn wsX11_parts (wsV RX11 113 RX11 yX11_become wsX11_become) := goodIn_app (goodIn_of _ (by decide +kernel)) ggX11_parts_X11_become
set_option maxRecDepth 20000 in
theorem ggX11_parts_X6_spans : GoodIn wsX11_parts wsX6_spans := goodIn_r _ [279, 22, 294, 295, 296, 297, 298, 299, 300, 301, 302, 303, 304, 305] (by decide +kernel) (by decide +kernel)
set_option maxRecDepth 20000 in
theorem gX11_parts_X6_spans : GoodIn wsX11_parts (wsV RX11 233 RX6 yX6_spans wsX6_spans) := goodIn_app (goodIn_of _ (by decide +kernel)) ggX11_parts_X6_spans
theorem dX11_parts_0 : decode cX11_parts 0 = .ok (.aload_n 0, 1) := by decide +kernel
theorem dX11_parts_1 : decode cX11_parts 1 = .ok (.iconst (-1), 1) := by decide +kernel
theorem dX11_parts_2 : decode cX11_parts 2 = .ok (.putfield 90, 3) := by decide +kernel
theorem dX11_parts_5 : decode cX11_parts 5 = .ok (.aload_n 0, 1) := by decide +kernel
theorem dX11_parts_6 : decode cX11_parts 6 = .ok (.getfield 34, 3) := by decide +kernel
theorem dX11_parts_9 : decode cX11_parts 9 = .ok (.invokevirtual 94, 3) := by decide +kernel
theorem dX11_parts_12 : decode cX11_parts 12 = .ok (.ifCond .le 19, 3) := by decide +kernel
theorem dX11_parts_15 : decode cX11_parts 15 = .ok (.aload_n 0, 1) := by decide +kernel
theorem dX11_parts_16 : decode cX11_parts 16 = .ok (.getfield 34, 3) := by decide +kernel
theorem dX11_parts_19 : decode cX11_parts 19 = .ok (.invokevirtual 94, 3) := by decide +kernel
theorem dX11_parts_22 : decode cX11_parts 22 = .ok (.bipush 60, 2) := by decide +kernel
theorem dX11_parts_24 : decode cX11_parts 24 = .ok (.if_icmp .gt 7, 3) := by decide +kernel
theorem dX11_parts_27 : decode cX11_parts 27 = .ok (.iconst 1, 1) := by decide +kernel
theorem dX11_parts_28 : decode cX11_parts 28 = .ok (.goto 4, 3) := by decide +kernel
theorem dX11_parts_31 : decode cX11_parts 31 = .ok (.iconst 0, 1) := by decide +kernel
theorem dX11_parts_32 : decode cX11_parts 32 = .ok (.istore_n 2, 1) := by decide +kernel
theorem dX11_parts_33 : decode cX11_parts 33 = .ok (.iload_n 2, 1) := by decide +kernel
theorem dX11_parts_34 : decode cX11_parts 34 = .ok (.ifCond .eq 14, 3) := by decide +kernel
theorem dX11_parts_37 : decode cX11_parts 37 = .ok (.iload_n 1, 1) := by decide +kernel
theorem dX11_parts_38 : decode cX11_parts 38 = .ok (.ifCond .lt 10, 3) := by decide +kernel
theorem dX11_parts_41 : decode cX11_parts 41 = .ok (.iload_n 1, 1) := by decide +kernel
theorem dX11_parts_42 : decode cX11_parts 42 = .ok (.sipush 1000, 3) := by decide +kernel
theorem dX11_parts_45 : decode cX11_parts 45 = .ok (.if_icmp .le 5, 3) := by decide +kernel
theorem dX11_parts_48 : decode cX11_parts 48 = .ok (.iconst (-1), 1) := by decide +kernel
theorem dX11_parts_49 : decode cX11_parts 49 = .ok (.ireturn, 1) := by decide +kernel
theorem dX11_parts_50 : decode cX11_parts 50 = .ok (.aload_n 0, 1) := by decide +kernel
theorem dX11_parts_51 : decode cX11_parts 51 = .ok (.getfield 77, 3) := by decide +kernel
theorem dX11_parts_54 : decode cX11_parts 54 = .ok (.aload_n 0, 1) := by decide +kernel
theorem dX11_parts_55 : decode cX11_parts 55 = .ok (.getfield 34, 3) := by decide +kernel
theorem dX11_parts_58 : decode cX11_parts 58 = .ok (.iload_n 1, 1) := by decide +kernel
theorem dX11_parts_59 : decode cX11_parts 59 = .ok (.invokevirtual 227, 3) := by decide +kernel
theorem dX11_parts_62 : decode cX11_parts 62 = .ok (.aload_n 0, 1) := by decide +kernel
theorem dX11_parts_63 : decode cX11_parts 63 = .ok (.getfield 77, 3) := by decide +kernel
theorem dX11_parts_66 : decode cX11_parts 66 = .ok (.aload_n 0, 1) := by decide +kernel
theorem dX11_parts_67 : decode cX11_parts 67 = .ok (.getfield 34, 3) := by decide +kernel
theorem dX11_parts_70 : decode cX11_parts 70 = .ok (.aload_n 0, 1) := by decide +kernel
theorem dX11_parts_71 : decode cX11_parts 71 = .ok (.getfield 37, 3) := by decide +kernel
theorem dX11_parts_74 : decode cX11_parts 74 = .ok (.invokevirtual 230, 3) := by decide +kernel
theorem dX11_parts_77 : decode cX11_parts 77 = .ok (.ifCond .ne 5, 3) := by decide +kernel
theorem dX11_parts_80 : decode cX11_parts 80 = .ok (.iconst (-1), 1) := by decide +kernel
theorem dX11_parts_81 : decode cX11_parts 81 = .ok (.ireturn, 1) := by decide +kernel
theorem dX11_parts_82 : decode cX11_parts 82 = .ok (.aload_n 0, 1) := by decide +kernel
theorem dX11_parts_83 : decode cX11_parts 83 = .ok (.aload_n 0, 1) := by decide +kernel
theorem dX11_parts_84 : decode cX11_parts 84 = .ok (.getfield 37, 3) := by decide +kernel
theorem dX11_parts_87 : decode cX11_parts 87 = .ok (.invokevirtual 113, 3) := by decide +kernel
theorem dX11_parts_90 : decode cX11_parts 90 = .ok (.pop, 1) := by decide +kernel
theorem dX11_parts_91 : decode cX11_parts 91 = .ok (.aload_n 0, 1) := by decide +kernel
theorem dX11_parts_92 : decode cX11_parts 92 = .ok (.getfield 77, 3) := by decide +kernel
theorem dX11_parts_95 : decode cX11_parts 95 = .ok (.invokevirtual 233, 3) := by decide +kernel
theorem dX11_parts_98 : decode cX11_parts 98 = .ok (.ireturn, 1) := by decide +kernel
set_option maxRecDepth 20000 in
theorem ggX11_choices_X11_marksOf : GoodIn wsX11_choices wsX11_marksOf := goodIn_r _ [7, 8, 9, 10, 11, 12, 13, 14, 15, 16, 17, 18, 19, 236, 237] (by decide +kernel) (by decide +kernel)
set_option maxRecDepth 20000 in
theorem gX11_choices_X11_marksOf : GoodIn wsX11_choices (va_wsS RX11 152 yX11_marksOf wsX11_marksOf) := goodIn_app (goodIn_of _ (by decide +kernel)) ggX11_choices_X11_marksOf
set_option maxRecDepth 20000 in
theorem ggX11_choices_X2_known : GoodIn wsX11_choices wsX2_known := goodIn_r _ [23] (by decide +kernel) (by decide +kernel)
set_option maxRecDepth 20000 in
theorem gX11_choices_X2_known : GoodIn wsX11_choices (va_wsS RX11 117 yX2_known wsX2_known) := goodIn_app (goodIn_of _ (by decide +kernel)) ggX11_choices_X2_known
set_option maxRecDepth 20000 in
theorem ggX11_choices_X5_length : GoodIn wsX11_choices wsX5_length := goodIn_r _ [13, 14, 236, 237] (by decide +kernel) (by decide +kernel)
set_option maxRecDepth 20000 in
theorem gX11_choices_X5_length : GoodIn wsX11_choices (wsV RX11 94 RX5 yX5_length wsX5_length) := goodIn_app (goodIn_of _ (by decide +kernel)) ggX11_choices_X5_length
set_option maxRecDepth 20000 in
theorem ggX11_choices_X1_layOut : GoodIn wsX11_choices wsX1_layOut := goodIn_r _ [28, 29, 30, 31, 32, 33, 34, 35, 36, 12, 37, 14, 38, 10, 11, 13, 39, 16, 17, 18, 19, 40, 41, 42, 43, 44, 45, 46, 22, 47, 48, 49, 50, 51, 52, 53, 54, 55, 56, 57, 58, 59, 60, 61, 62, 63, 64, 65, 66, 67, 68, 69, 70, 71, 72, 73, 74, 75, 238, 239, 240, 241, 242, 243, 244, 245, 246, 247, 248, 249, 250, 251, 252, 253, 254, 255, 256, 257, 236, 237, 258, 259, 260, 261, 262, 263] (by decide +kernel) (by decide +kernel)
set_option maxRecDepth 20000 in
theorem gX11_choices_X1_layOut : GoodIn wsX11_choices (wsV RX11 236 RX1 yX1_layOut wsX1_layOut) := goodIn_app (goodIn_of _ (by decide +kernel)) ggX11_choices_X1_layOut
set_option maxRecDepth 20000 in
theorem ggX11_choices_X1_find : GoodIn wsX11_choices wsX1_find := goodIn_r _ [79, 80, 81, 82, 83, 84, 30, 29, 31, 85, 33, 86, 87, 88, 89, 27, 90, 91, 92, 93, 94, 95, 96, 97, 98, 38, 10, 11, 12, 13, 14, 99, 100, 101, 22, 102, 103, 16, 17, 18, 19, 104, 105, 106, 107, 58, 59, 60, 61, 62, 63, 108, 109, 110, 67, 111, 112, 113, 114, 115, 116, 117, 118, 119, 6, 120, 121, 122, 123, 124, 125, 126, 52, 53, 54, 127, 128, 129, 130, 131, 132, 133, 134, 135, 136, 137, 138, 139, 140, 141, 142, 143, 144, 145, 146, 147, 148, 149, 150, 151, 152, 153, 154, 155, 156, 157, 158, 159, 160, 161, 162, 163, 164, 165, 166, 167, 168, 169, 170, 171, 172, 173, 174, 175, 176, 177, 178, 179, 180, 181, 182, 183, 184, 185, 186, 187, 188, 189, 190, 191, 192, 193, 194, 195, 196, 197, 198, 199, 200, 201, 202, 203, 204, 205, 206, 207, 208, 209, 210, 211, 212, 213, 214, 215, 216, 217, 218, 219, 220, 221, 222, 223, 238, 239, 240, 241, 242, 243, 244, 245, 246, 247, 248, 249, 250, 251, 252, 253, 254, 255, 256, 257, 236, 237, 258, 259, 260, 261, 262, 263, 264, 265, 266, 267, 268, 269, 270, 271, 272] (by decide +kernel) (by decide +kernel)
set_option maxRecDepth 20000 in
theorem gX11_choices_X1_find : GoodIn wsX11_choices (wsV RX11 240 RX1 yX1_find wsX1_find) := goodIn_app (goodIn_of _ (by decide +kernel)) ggX11_choices_X1_find
theorem dX11_choices_0 : decode cX11_choices 0 = .ok (.aload_n 0, 1) := by decide +kernel
theorem dX11_choices_1 : decode cX11_choices 1 = .ok (.iconst (-1), 1) := by decide +kernel
theorem dX11_choices_2 : decode cX11_choices 2 = .ok (.putfield 90, 3) := by decide +kernel
theorem dX11_choices_5 : decode cX11_choices 5 = .ok (.aload_n 0, 1) := by decide +kernel
theorem dX11_choices_6 : decode cX11_choices 6 = .ok (.getfield 34, 3) := by decide +kernel
theorem dX11_choices_9 : decode cX11_choices 9 = .ok (.invokestatic 152, 3) := by decide +kernel
theorem dX11_choices_12 : decode cX11_choices 12 = .ok (.istore_n 3, 1) := by decide +kernel
theorem dX11_choices_13 : decode cX11_choices 13 = .ok (.iload_n 1, 1) := by decide +kernel
theorem dX11_choices_14 : decode cX11_choices 14 = .ok (.invokestatic 117, 3) := by decide +kernel
theorem dX11_choices_17 : decode cX11_choices 17 = .ok (.ifCond .eq 24, 3) := by decide +kernel
theorem dX11_choices_20 : decode cX11_choices 20 = .ok (.iload_n 2, 1) := by decide +kernel
theorem dX11_choices_21 : decode cX11_choices 21 = .ok (.invokestatic 117, 3) := by decide +kernel
theorem dX11_choices_24 : decode cX11_choices 24 = .ok (.ifCond .eq 17, 3) := by decide +kernel
theorem dX11_choices_27 : decode cX11_choices 27 = .ok (.iload_n 3, 1) := by decide +kernel
theorem dX11_choices_28 : decode cX11_choices 28 = .ok (.iconst 1, 1) := by decide +kernel
theorem dX11_choices_29 : decode cX11_choices 29 = .ok (.if_icmp .eq 8, 3) := by decide +kernel
theorem dX11_choices_32 : decode cX11_choices 32 = .ok (.iload_n 3, 1) := by decide +kernel
theorem dX11_choices_33 : decode cX11_choices 33 = .ok (.iconst 2, 1) := by decide +kernel
theorem dX11_choices_34 : decode cX11_choices 34 = .ok (.if_icmp .ne 7, 3) := by decide +kernel
theorem dX11_choices_37 : decode cX11_choices 37 = .ok (.iconst 1, 1) := by decide +kernel
theorem dX11_choices_38 : decode cX11_choices 38 = .ok (.goto 4, 3) := by decide +kernel
theorem dX11_choices_41 : decode cX11_choices 41 = .ok (.iconst 0, 1) := by decide +kernel
theorem dX11_choices_42 : decode cX11_choices 42 = .ok (.istore 4, 2) := by decide +kernel
theorem dX11_choices_44 : decode cX11_choices 44 = .ok (.iload 4, 2) := by decide +kernel
theorem dX11_choices_46 : decode cX11_choices 46 = .ok (.ifCond .eq 15, 3) := by decide +kernel
theorem dX11_choices_49 : decode cX11_choices 49 = .ok (.aload_n 0, 1) := by decide +kernel
theorem dX11_choices_50 : decode cX11_choices 50 = .ok (.getfield 34, 3) := by decide +kernel
theorem dX11_choices_53 : decode cX11_choices 53 = .ok (.invokevirtual 94, 3) := by decide +kernel
theorem dX11_choices_56 : decode cX11_choices 56 = .ok (.bipush 100, 2) := by decide +kernel
theorem dX11_choices_58 : decode cX11_choices 58 = .ok (.if_icmp .le 5, 3) := by decide +kernel
theorem dX11_choices_61 : decode cX11_choices 61 = .ok (.iconst (-1), 1) := by decide +kernel
theorem dX11_choices_62 : decode cX11_choices 62 = .ok (.ireturn, 1) := by decide +kernel
theorem dX11_choices_63 : decode cX11_choices 63 = .ok (.aload_n 0, 1) := by decide +kernel
theorem dX11_choices_64 : decode cX11_choices 64 = .ok (.aload_n 0, 1) := by decide +kernel
theorem dX11_choices_65 : decode cX11_choices 65 = .ok (.getfield 86, 3) := by decide +kernel
theorem dX11_choices_68 : decode cX11_choices 68 = .ok (.iload_n 2, 1) := by decide +kernel
theorem dX11_choices_69 : decode cX11_choices 69 = .ok (.aload_n 0, 1) := by decide +kernel
theorem dX11_choices_70 : decode cX11_choices 70 = .ok (.getfield 34, 3) := by decide +kernel
theorem dX11_choices_73 : decode cX11_choices 73 = .ok (.invokevirtual 236, 3) := by decide +kernel
theorem dX11_choices_76 : decode cX11_choices 76 = .ok (.putfield 90, 3) := by decide +kernel
theorem dX11_choices_79 : decode cX11_choices 79 = .ok (.aload_n 0, 1) := by decide +kernel
theorem dX11_choices_80 : decode cX11_choices 80 = .ok (.getfield 90, 3) := by decide +kernel
theorem dX11_choices_83 : decode cX11_choices 83 = .ok (.iconst (-1), 1) := by decide +kernel
theorem dX11_choices_84 : decode cX11_choices 84 = .ok (.if_icmp .eq 5, 3) := by decide +kernel
theorem dX11_choices_87 : decode cX11_choices 87 = .ok (.iconst (-1), 1) := by decide +kernel
theorem dX11_choices_88 : decode cX11_choices 88 = .ok (.ireturn, 1) := by decide +kernel
theorem dX11_choices_89 : decode cX11_choices 89 = .ok (.aload_n 0, 1) := by decide +kernel
theorem dX11_choices_90 : decode cX11_choices 90 = .ok (.getfield 86, 3) := by decide +kernel
theorem dX11_choices_93 : decode cX11_choices 93 = .ok (.iload_n 1, 1) := by decide +kernel
theorem dX11_choices_94 : decode cX11_choices 94 = .ok (.iload_n 2, 1) := by decide +kernel
theorem dX11_choices_95 : decode cX11_choices 95 = .ok (.invokevirtual 240, 3) := by decide +kernel
theorem dX11_choices_98 : decode cX11_choices 98 = .ok (.ireturn, 1) := by decide +kernel
set_option maxRecDepth 20000 in
theorem ggX11_choice_X1_told : GoodIn wsX11_choice wsX1_told := goodIn_r _ [6, 7, 8, 9, 10, 11, 24, 25, 26, 27, 28, 29, 30, 31, 32, 33, 34, 35, 36, 37, 38, 39, 40, 41, 42, 43] (by decide +kernel) (by decide +kernel)
set_option maxRecDepth 20000 in
theorem gX11_choice_X1_told : GoodIn wsX11_choice (wsV RX11 242 RX1 yX1_told wsX1_told) := goodIn_app (goodIn_of _ (by decide +kernel)) ggX11_choice_X1_told
theorem dX11_choice_0 : decode cX11_choice 0 = .ok (.aload_n 0, 1) := by decide +kernel
theorem dX11_choice_1 : decode cX11_choice 1 = .ok (.getfield 86, 3) := by decide +kernel
theorem dX11_choice_4 : decode cX11_choice 4 = .ok (.iload_n 1, 1) := by decide +kernel
theorem dX11_choice_5 : decode cX11_choice 5 = .ok (.iload_n 2, 1) := by decide +kernel
theorem dX11_choice_6 : decode cX11_choice 6 = .ok (.invokevirtual 242, 3) := by decide +kernel
theorem dX11_choice_9 : decode cX11_choice 9 = .ok (.ireturn, 1) := by decide +kernel
set_option maxRecDepth 20000 in
theorem ggX11_chosen_X1_isFresh : GoodIn wsX11_chosen wsX1_isFresh := goodIn_r _ [9, 10, 11, 182, 183, 184, 185, 186, 187, 188, 189, 190, 191, 192, 193, 194, 195, 196, 197, 198, 199, 200, 201] (by decide +kernel) (by decide +kernel)
set_option maxRecDepth 20000 in
theorem gX11_chosen_X1_isFresh : GoodIn wsX11_chosen (wsV RX11 243 RX1 yX1_isFresh wsX1_isFresh) := goodIn_app (goodIn_of _ (by decide +kernel)) ggX11_chosen_X1_isFresh
set_option maxRecDepth 20000 in
theorem ggX11_chosen_X1_build : GoodIn wsX11_chosen wsX1_build := goodIn_r _ [15, 11, 16, 17, 18, 19, 20, 21, 22, 23, 24, 25, 8, 26, 27, 28, 29, 30, 31, 32, 33, 34, 35, 36, 37, 38, 39, 40, 41, 42, 43, 44, 45, 46, 47, 48, 49, 50, 51, 52, 53, 54, 55, 56, 57, 58, 59, 60, 61, 62, 63, 64, 65, 66, 67, 68, 69, 70, 71, 72, 73, 74, 75, 76, 77, 78, 79, 80, 81, 82, 83, 84, 85, 86, 87, 88, 89, 90, 91, 92, 93, 94, 95, 96, 97, 98, 99, 100, 101, 102, 103, 104, 105, 106, 107, 108, 109, 110, 111, 112, 113, 114, 115, 116, 117, 118, 119, 120, 121, 122, 123, 124, 125, 126, 127, 128, 129, 130, 131, 132, 133, 182, 183, 184, 185, 186, 187, 188, 189, 190, 191, 192, 193, 194, 195, 196, 197, 198, 199, 200, 201, 202, 203, 204, 205, 206, 207, 208, 209, 210, 211, 212] (by decide +kernel) (by decide +kernel)
set_option maxRecDepth 20000 in
theorem gX11_chosen_X1_build : GoodIn wsX11_chosen (wsV RX11 246 RX1 yX1_build wsX1_build) := goodIn_app (goodIn_of _ (by decide +kernel)) ggX11_chosen_X1_build
set_option maxRecDepth 20000 in
theorem ggX11_chosen_X11_become : GoodIn wsX11_chosen wsX11_become := goodIn_r _ [137, 138, 2, 1, 139, 140, 141, 142, 143, 144, 145, 94, 146, 147, 148, 149, 150, 151, 36, 37, 32, 38, 34, 152, 40, 41, 42, 43, 153, 154, 155, 156, 157, 158, 159, 160, 161, 162, 163, 164, 165, 166, 167, 8, 168, 10, 169, 170, 171, 172, 173, 174, 175, 176, 177, 178, 179, 180, 181, 213, 214, 215, 216, 202, 203, 182, 183, 184, 185, 186, 187, 188, 189, 190, 191, 192, 193, 194, 195, 196, 197, 198, 199, 200, 201] (by decide +kernel) (by decide +kernel)
set_option maxRecDepth 20000 in
theorem gX11_chosen_X11_become : GoodIn wsX11_chosen (wsV RX11 113 RX11 yX11_become wsX11_become) := goodIn_app (goodIn_of _ (by decide +kernel)) ggX11_chosen_X11_become
theorem dX11_chosen_0 : decode cX11_chosen 0 = .ok (.aload_n 0, 1) := by decide +kernel
theorem dX11_chosen_1 : decode cX11_chosen 1 = .ok (.getfield 86, 3) := by decide +kernel
theorem dX11_chosen_4 : decode cX11_chosen 4 = .ok (.iload_n 1, 1) := by decide +kernel
theorem dX11_chosen_5 : decode cX11_chosen 5 = .ok (.invokevirtual 243, 3) := by decide +kernel
theorem dX11_chosen_8 : decode cX11_chosen 8 = .ok (.ifCond .eq 26, 3) := by decide +kernel
theorem dX11_chosen_11 : decode cX11_chosen 11 = .ok (.aload_n 0, 1) := by decide +kernel
theorem dX11_chosen_12 : decode cX11_chosen 12 = .ok (.getfield 86, 3) := by decide +kernel
theorem dX11_chosen_15 : decode cX11_chosen 15 = .ok (.iload_n 1, 1) := by decide +kernel
theorem dX11_chosen_16 : decode cX11_chosen 16 = .ok (.aload_n 0, 1) := by decide +kernel
theorem dX11_chosen_17 : decode cX11_chosen 17 = .ok (.getfield 34, 3) := by decide +kernel
theorem dX11_chosen_20 : decode cX11_chosen 20 = .ok (.aload_n 0, 1) := by decide +kernel
theorem dX11_chosen_21 : decode cX11_chosen 21 = .ok (.getfield 44, 3) := by decide +kernel
theorem dX11_chosen_24 : decode cX11_chosen 24 = .ok (.aload_n 0, 1) := by decide +kernel
theorem dX11_chosen_25 : decode cX11_chosen 25 = .ok (.getfield 37, 3) := by decide +kernel
theorem dX11_chosen_28 : decode cX11_chosen 28 = .ok (.invokevirtual 246, 3) := by decide +kernel
theorem dX11_chosen_31 : decode cX11_chosen 31 = .ok (.ifCond .ne 5, 3) := by decide +kernel
theorem dX11_chosen_34 : decode cX11_chosen 34 = .ok (.iconst 0, 1) := by decide +kernel
theorem dX11_chosen_35 : decode cX11_chosen 35 = .ok (.ireturn, 1) := by decide +kernel
theorem dX11_chosen_36 : decode cX11_chosen 36 = .ok (.aload_n 0, 1) := by decide +kernel
theorem dX11_chosen_37 : decode cX11_chosen 37 = .ok (.aload_n 0, 1) := by decide +kernel
theorem dX11_chosen_38 : decode cX11_chosen 38 = .ok (.getfield 37, 3) := by decide +kernel
theorem dX11_chosen_41 : decode cX11_chosen 41 = .ok (.invokevirtual 113, 3) := by decide +kernel
theorem dX11_chosen_44 : decode cX11_chosen 44 = .ok (.pop, 1) := by decide +kernel
theorem dX11_chosen_45 : decode cX11_chosen 45 = .ok (.iconst 1, 1) := by decide +kernel
theorem dX11_chosen_46 : decode cX11_chosen 46 = .ok (.ireturn, 1) := by decide +kernel
set_option maxRecDepth 20000 in
theorem ggX11_tapeHoldsLetters_X5_length : GoodIn wsX11_tapeHoldsLetters wsX5_length := goodIn_r _ [7, 8, 33, 34] (by decide +kernel) (by decide +kernel)
set_option maxRecDepth 20000 in
theorem gX11_tapeHoldsLetters_X5_length : GoodIn wsX11_tapeHoldsLetters (wsV RX11 94 RX5 yX5_length wsX5_length) := goodIn_app (goodIn_of _ (by decide +kernel)) ggX11_tapeHoldsLetters_X5_length
set_option maxRecDepth 20000 in
theorem ggX11_tapeHoldsLetters_X5_get : GoodIn wsX11_tapeHoldsLetters wsX5_get := goodIn_r _ [12, 8, 13, 33, 34] (by decide +kernel) (by decide +kernel)
set_option maxRecDepth 20000 in
theorem gX11_tapeHoldsLetters_X5_get : GoodIn wsX11_tapeHoldsLetters (wsV RX11 167 RX5 yX5_get wsX5_get) := goodIn_app (goodIn_of _ (by decide +kernel)) ggX11_tapeHoldsLetters_X5_get
set_option maxRecDepth 20000 in
theorem ggX11_tapeHoldsLetters_X11_isLetter : GoodIn wsX11_tapeHoldsLetters wsX11_isLetter := goodIn_r _ [17, 18, 19, 20] (by decide +kernel) (by decide +kernel)
set_option maxRecDepth 20000 in
theorem gX11_tapeHoldsLetters_X11_isLetter : GoodIn wsX11_tapeHoldsLetters (va_wsS RX11 205 yX11_isLetter wsX11_isLetter) := goodIn_app (goodIn_of _ (by decide +kernel)) ggX11_tapeHoldsLetters_X11_isLetter
theorem dX11_tapeHoldsLetters_0 : decode cX11_tapeHoldsLetters 0 = .ok (.iconst 0, 1) := by decide +kernel
theorem dX11_tapeHoldsLetters_1 : decode cX11_tapeHoldsLetters 1 = .ok (.istore_n 1, 1) := by decide +kernel
theorem dX11_tapeHoldsLetters_2 : decode cX11_tapeHoldsLetters 2 = .ok (.iload_n 1, 1) := by decide +kernel
theorem dX11_tapeHoldsLetters_3 : decode cX11_tapeHoldsLetters 3 = .ok (.aload_n 0, 1) := by decide +kernel
theorem dX11_tapeHoldsLetters_4 : decode cX11_tapeHoldsLetters 4 = .ok (.getfield 30, 3) := by decide +kernel
theorem dX11_tapeHoldsLetters_7 : decode cX11_tapeHoldsLetters 7 = .ok (.invokevirtual 94, 3) := by decide +kernel
theorem dX11_tapeHoldsLetters_10 : decode cX11_tapeHoldsLetters 10 = .ok (.if_icmp .ge 30, 3) := by decide +kernel
theorem dX11_tapeHoldsLetters_13 : decode cX11_tapeHoldsLetters 13 = .ok (.aload_n 0, 1) := by decide +kernel
theorem dX11_tapeHoldsLetters_14 : decode cX11_tapeHoldsLetters 14 = .ok (.getfield 30, 3) := by decide +kernel
theorem dX11_tapeHoldsLetters_17 : decode cX11_tapeHoldsLetters 17 = .ok (.iload_n 1, 1) := by decide +kernel
theorem dX11_tapeHoldsLetters_18 : decode cX11_tapeHoldsLetters 18 = .ok (.invokevirtual 167, 3) := by decide +kernel
theorem dX11_tapeHoldsLetters_21 : decode cX11_tapeHoldsLetters 21 = .ok (.invokestatic 205, 3) := by decide +kernel
theorem dX11_tapeHoldsLetters_24 : decode cX11_tapeHoldsLetters 24 = .ok (.ifCond .ne 10, 3) := by decide +kernel
theorem dX11_tapeHoldsLetters_27 : decode cX11_tapeHoldsLetters 27 = .ok (.aload_n 0, 1) := by decide +kernel
theorem dX11_tapeHoldsLetters_28 : decode cX11_tapeHoldsLetters 28 = .ok (.iload_n 1, 1) := by decide +kernel
theorem dX11_tapeHoldsLetters_29 : decode cX11_tapeHoldsLetters 29 = .ok (.putfield 90, 3) := by decide +kernel
theorem dX11_tapeHoldsLetters_32 : decode cX11_tapeHoldsLetters 32 = .ok (.iconst 0, 1) := by decide +kernel
theorem dX11_tapeHoldsLetters_33 : decode cX11_tapeHoldsLetters 33 = .ok (.ireturn, 1) := by decide +kernel
theorem dX11_tapeHoldsLetters_34 : decode cX11_tapeHoldsLetters 34 = .ok (.iinc 1 1, 3) := by decide +kernel
theorem dX11_tapeHoldsLetters_37 : decode cX11_tapeHoldsLetters 37 = .ok (.goto (-35), 3) := by decide +kernel
theorem dX11_tapeHoldsLetters_40 : decode cX11_tapeHoldsLetters 40 = .ok (.iconst 1, 1) := by decide +kernel
theorem dX11_tapeHoldsLetters_41 : decode cX11_tapeHoldsLetters 41 = .ok (.ireturn, 1) := by decide +kernel
set_option maxRecDepth 20000 in
theorem ggX11_tapeHoldsBytes_X5_length : GoodIn wsX11_tapeHoldsBytes wsX5_length := goodIn_r _ [7, 8, 26, 27] (by decide +kernel) (by decide +kernel)
set_option maxRecDepth 20000 in
theorem gX11_tapeHoldsBytes_X5_length : GoodIn wsX11_tapeHoldsBytes (wsV RX11 94 RX5 yX5_length wsX5_length) := goodIn_app (goodIn_of _ (by decide +kernel)) ggX11_tapeHoldsBytes_X5_length
set_option maxRecDepth 20000 in
theorem ggX11_tapeHoldsBytes_X5_get : GoodIn wsX11_tapeHoldsBytes wsX5_get := goodIn_r _ [12, 8, 13, 26, 27] (by decide +kernel) (by decide +kernel)
set_option maxRecDepth 20000 in
theorem gX11_tapeHoldsBytes_X5_get : GoodIn wsX11_tapeHoldsBytes (wsV RX11 167 RX5 yX5_get wsX5_get) := goodIn_app (goodIn_of _ (by decide +kernel)) ggX11_tapeHoldsBytes_X5_get
theorem dX11_tapeHoldsBytes_0 : decode cX11_tapeHoldsBytes 0 = .ok (.iconst 0, 1) := by decide +kernel
theorem dX11_tapeHoldsBytes_1 : decode cX11_tapeHoldsBytes 1 = .ok (.istore_n 1, 1) := by decide +kernel
theorem dX11_tapeHoldsBytes_2 : decode cX11_tapeHoldsBytes 2 = .ok (.iload_n 1, 1) := by decide +kernel
theorem dX11_tapeHoldsBytes_3 : decode cX11_tapeHoldsBytes 3 = .ok (.aload_n 0, 1) := by decide +kernel
theorem dX11_tapeHoldsBytes_4 : decode cX11_tapeHoldsBytes 4 = .ok (.getfield 30, 3) := by decide +kernel
theorem dX11_tapeHoldsBytes_7 : decode cX11_tapeHoldsBytes 7 = .ok (.invokevirtual 94, 3) := by decide +kernel
theorem dX11_tapeHoldsBytes_10 : decode cX11_tapeHoldsBytes 10 = .ok (.if_icmp .ge 36, 3) := by decide +kernel
theorem dX11_tapeHoldsBytes_13 : decode cX11_tapeHoldsBytes 13 = .ok (.aload_n 0, 1) := by decide +kernel
theorem dX11_tapeHoldsBytes_14 : decode cX11_tapeHoldsBytes 14 = .ok (.getfield 30, 3) := by decide +kernel
theorem dX11_tapeHoldsBytes_17 : decode cX11_tapeHoldsBytes 17 = .ok (.iload_n 1, 1) := by decide +kernel
theorem dX11_tapeHoldsBytes_18 : decode cX11_tapeHoldsBytes 18 = .ok (.invokevirtual 167, 3) := by decide +kernel
theorem dX11_tapeHoldsBytes_21 : decode cX11_tapeHoldsBytes 21 = .ok (.istore_n 2, 1) := by decide +kernel
theorem dX11_tapeHoldsBytes_22 : decode cX11_tapeHoldsBytes 22 = .ok (.iload_n 2, 1) := by decide +kernel
theorem dX11_tapeHoldsBytes_23 : decode cX11_tapeHoldsBytes 23 = .ok (.ifCond .lt 10, 3) := by decide +kernel
theorem dX11_tapeHoldsBytes_26 : decode cX11_tapeHoldsBytes 26 = .ok (.iload_n 2, 1) := by decide +kernel
theorem dX11_tapeHoldsBytes_27 : decode cX11_tapeHoldsBytes 27 = .ok (.sipush 256, 3) := by decide +kernel
theorem dX11_tapeHoldsBytes_30 : decode cX11_tapeHoldsBytes 30 = .ok (.if_icmp .lt 10, 3) := by decide +kernel
theorem dX11_tapeHoldsBytes_33 : decode cX11_tapeHoldsBytes 33 = .ok (.aload_n 0, 1) := by decide +kernel
theorem dX11_tapeHoldsBytes_34 : decode cX11_tapeHoldsBytes 34 = .ok (.iload_n 1, 1) := by decide +kernel
theorem dX11_tapeHoldsBytes_35 : decode cX11_tapeHoldsBytes 35 = .ok (.putfield 90, 3) := by decide +kernel
theorem dX11_tapeHoldsBytes_38 : decode cX11_tapeHoldsBytes 38 = .ok (.iconst 0, 1) := by decide +kernel
theorem dX11_tapeHoldsBytes_39 : decode cX11_tapeHoldsBytes 39 = .ok (.ireturn, 1) := by decide +kernel
theorem dX11_tapeHoldsBytes_40 : decode cX11_tapeHoldsBytes 40 = .ok (.iinc 1 1, 3) := by decide +kernel
theorem dX11_tapeHoldsBytes_43 : decode cX11_tapeHoldsBytes 43 = .ok (.goto (-41), 3) := by decide +kernel
theorem dX11_tapeHoldsBytes_46 : decode cX11_tapeHoldsBytes 46 = .ok (.iconst 1, 1) := by decide +kernel
theorem dX11_tapeHoldsBytes_47 : decode cX11_tapeHoldsBytes 47 = .ok (.ireturn, 1) := by decide +kernel
set_option maxRecDepth 20000 in
theorem ggX11_writes_X2_known : GoodIn wsX11_writes wsX2_known := goodIn_r _ [7] (by decide +kernel) (by decide +kernel)
set_option maxRecDepth 20000 in
theorem gX11_writes_X2_known : GoodIn wsX11_writes (va_wsS RX11 117 yX2_known wsX2_known) := goodIn_app (goodIn_of _ (by decide +kernel)) ggX11_writes_X2_known
set_option maxRecDepth 20000 in
theorem ggX11_writes_X7_write : GoodIn wsX11_writes wsX7_write := goodIn_r _ [12, 13, 14, 15, 16, 17, 18, 19, 20, 21, 22, 23, 24, 25, 26, 27, 28, 29, 30, 31, 32, 33, 6, 34, 35, 36, 37, 38, 39, 40, 41, 42, 43, 44, 45, 46, 47, 48, 49, 50, 51, 52, 53, 54, 55, 56, 57, 58, 59, 60, 61, 62, 63, 64, 65, 82, 83, 84, 85, 86, 87, 88, 89, 90, 91, 92] (by decide +kernel) (by decide +kernel)
set_option maxRecDepth 20000 in
theorem gX11_writes_X7_write : GoodIn wsX11_writes (wsV RX11 249 RX7 yX7_write wsX7_write) := goodIn_app (goodIn_of _ (by decide +kernel)) ggX11_writes_X7_write
set_option maxRecDepth 20000 in
theorem ggX11_writes_X7_fault : GoodIn wsX11_writes wsX7_fault := goodIn_r _ [69, 13, 82, 83, 84] (by decide +kernel) (by decide +kernel)
set_option maxRecDepth 20000 in
theorem gX11_writes_X7_fault : GoodIn wsX11_writes (wsV RX11 127 RX7 yX7_fault wsX7_fault) := goodIn_app (goodIn_of _ (by decide +kernel)) ggX11_writes_X7_fault
theorem dX11_writes_0 : decode cX11_writes 0 = .ok (.aload_n 0, 1) := by decide +kernel
theorem dX11_writes_1 : decode cX11_writes 1 = .ok (.iconst (-1), 1) := by decide +kernel
theorem dX11_writes_2 : decode cX11_writes 2 = .ok (.putfield 90, 3) := by decide +kernel
theorem dX11_writes_5 : decode cX11_writes 5 = .ok (.iload_n 1, 1) := by decide +kernel
theorem dX11_writes_6 : decode cX11_writes 6 = .ok (.invokestatic 117, 3) := by decide +kernel
theorem dX11_writes_9 : decode cX11_writes 9 = .ok (.ifCond .ne 5, 3) := by decide +kernel
theorem dX11_writes_12 : decode cX11_writes 12 = .ok (.iconst 0, 1) := by decide +kernel
theorem dX11_writes_13 : decode cX11_writes 13 = .ok (.ireturn, 1) := by decide +kernel
theorem dX11_writes_14 : decode cX11_writes 14 = .ok (.aload_n 0, 1) := by decide +kernel
theorem dX11_writes_15 : decode cX11_writes 15 = .ok (.getfield 44, 3) := by decide +kernel
theorem dX11_writes_18 : decode cX11_writes 18 = .ok (.iload_n 1, 1) := by decide +kernel
theorem dX11_writes_19 : decode cX11_writes 19 = .ok (.aload_n 0, 1) := by decide +kernel
theorem dX11_writes_20 : decode cX11_writes 20 = .ok (.getfield 34, 3) := by decide +kernel
theorem dX11_writes_23 : decode cX11_writes 23 = .ok (.invokevirtual 249, 3) := by decide +kernel
theorem dX11_writes_26 : decode cX11_writes 26 = .ok (.istore_n 2, 1) := by decide +kernel
theorem dX11_writes_27 : decode cX11_writes 27 = .ok (.aload_n 0, 1) := by decide +kernel
theorem dX11_writes_28 : decode cX11_writes 28 = .ok (.aload_n 0, 1) := by decide +kernel
theorem dX11_writes_29 : decode cX11_writes 29 = .ok (.getfield 44, 3) := by decide +kernel
theorem dX11_writes_32 : decode cX11_writes 32 = .ok (.invokevirtual 127, 3) := by decide +kernel
theorem dX11_writes_35 : decode cX11_writes 35 = .ok (.putfield 90, 3) := by decide +kernel
theorem dX11_writes_38 : decode cX11_writes 38 = .ok (.iload_n 2, 1) := by decide +kernel
theorem dX11_writes_39 : decode cX11_writes 39 = .ok (.ireturn, 1) := by decide +kernel
set_option maxRecDepth 20000 in
theorem ggX11_passes_X2_known : GoodIn wsX11_passes wsX2_known := goodIn_r _ [8] (by decide +kernel) (by decide +kernel)
set_option maxRecDepth 20000 in
theorem gX11_passes_X2_known : GoodIn wsX11_passes (va_wsS RX11 117 yX2_known wsX2_known) := goodIn_app (goodIn_of _ (by decide +kernel)) ggX11_passes_X2_known
set_option maxRecDepth 20000 in
theorem ggX11_passes_X7_pass : GoodIn wsX11_passes wsX7_pass := goodIn_r _ [13, 14, 15, 16, 17, 12, 18, 19, 20, 21, 22, 23, 24, 25, 26, 27, 28, 29, 30, 31, 32, 33, 34, 35, 36, 37, 38, 7, 39, 40, 41, 42, 43, 44, 45, 46, 47, 48, 49, 50, 51, 52, 53, 54, 55, 56, 57, 58, 59, 60, 61, 62, 63, 64, 65, 66, 67, 68, 69, 70, 71, 72, 73, 74, 75, 76, 77, 78, 79, 80, 81, 82, 83, 84, 85, 86, 87, 88, 89, 90, 91, 92, 93, 94, 95, 96, 97, 98, 99, 100, 101, 102, 103, 104, 105, 106, 107, 108, 109, 110, 111, 112, 113, 114, 131, 132, 133, 134, 135, 136, 137, 138, 139, 140, 141] (by decide +kernel) (by decide +kernel)
set_option maxRecDepth 20000 in
theorem gX11_passes_X7_pass : GoodIn wsX11_passes (wsV RX11 253 RX7 yX7_pass wsX7_pass) := goodIn_app (goodIn_of _ (by decide +kernel)) ggX11_passes_X7_pass
set_option maxRecDepth 20000 in
theorem ggX11_passes_X7_fault : GoodIn wsX11_passes wsX7_fault := goodIn_r _ [118, 19, 131, 132, 133] (by decide +kernel) (by decide +kernel)
set_option maxRecDepth 20000 in
theorem gX11_passes_X7_fault : GoodIn wsX11_passes (wsV RX11 127 RX7 yX7_fault wsX7_fault) := goodIn_app (goodIn_of _ (by decide +kernel)) ggX11_passes_X7_fault
theorem dX11_passes_0 : decode cX11_passes 0 = .ok (.aload_n 0, 1) := by decide +kernel
theorem dX11_passes_1 : decode cX11_passes 1 = .ok (.iconst (-1), 1) := by decide +kernel
theorem dX11_passes_2 : decode cX11_passes 2 = .ok (.putfield 90, 3) := by decide +kernel
theorem dX11_passes_5 : decode cX11_passes 5 = .ok (.iload_n 1, 1) := by decide +kernel
theorem dX11_passes_6 : decode cX11_passes 6 = .ok (.invokestatic 117, 3) := by decide +kernel
theorem dX11_passes_9 : decode cX11_passes 9 = .ok (.ifCond .eq 10, 3) := by decide +kernel
theorem dX11_passes_12 : decode cX11_passes 12 = .ok (.iload_n 2, 1) := by decide +kernel
theorem dX11_passes_13 : decode cX11_passes 13 = .ok (.invokestatic 117, 3) := by decide +kernel
theorem dX11_passes_16 : decode cX11_passes 16 = .ok (.ifCond .ne 5, 3) := by decide +kernel
theorem dX11_passes_19 : decode cX11_passes 19 = .ok (.iconst 0, 1) := by decide +kernel
theorem dX11_passes_20 : decode cX11_passes 20 = .ok (.ireturn, 1) := by decide +kernel
theorem dX11_passes_21 : decode cX11_passes 21 = .ok (.aload_n 0, 1) := by decide +kernel
theorem dX11_passes_22 : decode cX11_passes 22 = .ok (.getfield 44, 3) := by decide +kernel
theorem dX11_passes_25 : decode cX11_passes 25 = .ok (.iload_n 1, 1) := by decide +kernel
theorem dX11_passes_26 : decode cX11_passes 26 = .ok (.iload_n 2, 1) := by decide +kernel
theorem dX11_passes_27 : decode cX11_passes 27 = .ok (.aload_n 0, 1) := by decide +kernel
theorem dX11_passes_28 : decode cX11_passes 28 = .ok (.getfield 34, 3) := by decide +kernel
theorem dX11_passes_31 : decode cX11_passes 31 = .ok (.aload_n 0, 1) := by decide +kernel
theorem dX11_passes_32 : decode cX11_passes 32 = .ok (.getfield 37, 3) := by decide +kernel
theorem dX11_passes_35 : decode cX11_passes 35 = .ok (.invokevirtual 253, 3) := by decide +kernel
theorem dX11_passes_38 : decode cX11_passes 38 = .ok (.istore_n 3, 1) := by decide +kernel
theorem dX11_passes_39 : decode cX11_passes 39 = .ok (.aload_n 0, 1) := by decide +kernel
theorem dX11_passes_40 : decode cX11_passes 40 = .ok (.aload_n 0, 1) := by decide +kernel
theorem dX11_passes_41 : decode cX11_passes 41 = .ok (.getfield 44, 3) := by decide +kernel
theorem dX11_passes_44 : decode cX11_passes 44 = .ok (.invokevirtual 127, 3) := by decide +kernel
theorem dX11_passes_47 : decode cX11_passes 47 = .ok (.putfield 90, 3) := by decide +kernel
theorem dX11_passes_50 : decode cX11_passes 50 = .ok (.iload_n 3, 1) := by decide +kernel
theorem dX11_passes_51 : decode cX11_passes 51 = .ok (.ireturn, 1) := by decide +kernel
set_option maxRecDepth 20000 in
theorem ggX11_become_X0_remember : GoodIn wsX11_become wsX0_remember := goodIn_r _ [8, 9, 10, 11, 12, 13, 14, 15, 16, 17, 18, 19, 20, 21, 22, 23, 24, 25, 26, 27, 59, 60, 61, 62, 63, 64] (by decide +kernel) (by decide +kernel)
set_option maxRecDepth 20000 in
theorem gX11_become_X0_remember : GoodIn wsX11_become (wsV RX11 257 RX0 yX0_remember wsX0_remember) := goodIn_app (goodIn_of _ (by decide +kernel)) ggX11_become_X0_remember
set_option maxRecDepth 20000 in
theorem ggX11_become_X5_takeAll : GoodIn wsX11_become wsX5_takeAll := goodIn_r _ [31, 22, 32, 33, 34, 20, 35, 27, 36, 37, 38, 39, 63, 64] (by decide +kernel) (by decide +kernel)
set_option maxRecDepth 20000 in
theorem gX11_become_X5_takeAll : GoodIn wsX11_become (wsV RX11 109 RX5 yX5_takeAll wsX5_takeAll) := goodIn_app (goodIn_of _ (by decide +kernel)) ggX11_become_X5_takeAll
set_option maxRecDepth 20000 in
theorem ggX11_become_X1_forgetFreshness : GoodIn wsX11_become wsX1_forgetFreshness := goodIn_r _ [44, 45, 65, 66, 67, 68, 69, 70, 71, 72, 73, 74, 75, 76, 77, 78, 79, 80, 81, 82, 83, 84] (by decide +kernel) (by decide +kernel)
set_option maxRecDepth 20000 in
theorem gX11_become_X1_forgetFreshness : GoodIn wsX11_become (wsV RX11 143 RX1 yX1_forgetFreshness wsX1_forgetFreshness) := goodIn_app (goodIn_of _ (by decide +kernel)) ggX11_become_X1_forgetFreshness
set_option maxRecDepth 20000 in
theorem ggX11_become_X5_length : GoodIn wsX11_become wsX5_length := goodIn_r _ [21, 22, 63, 64] (by decide +kernel) (by decide +kernel)
set_option maxRecDepth 20000 in
theorem gX11_become_X5_length : GoodIn wsX11_become (wsV RX11 94 RX5 yX5_length wsX5_length) := goodIn_app (goodIn_of _ (by decide +kernel)) ggX11_become_X5_length
theorem dX11_become_0 : decode cX11_become 0 = .ok (.aload_n 0, 1) := by decide +kernel
theorem dX11_become_1 : decode cX11_become 1 = .ok (.getfield 59, 3) := by decide +kernel
theorem dX11_become_4 : decode cX11_become 4 = .ok (.aload_n 0, 1) := by decide +kernel
theorem dX11_become_5 : decode cX11_become 5 = .ok (.getfield 34, 3) := by decide +kernel
theorem dX11_become_8 : decode cX11_become 8 = .ok (.invokevirtual 257, 3) := by decide +kernel
theorem dX11_become_11 : decode cX11_become 11 = .ok (.aload_n 0, 1) := by decide +kernel
theorem dX11_become_12 : decode cX11_become 12 = .ok (.getfield 34, 3) := by decide +kernel
theorem dX11_become_15 : decode cX11_become 15 = .ok (.aload_n 1, 1) := by decide +kernel
theorem dX11_become_16 : decode cX11_become 16 = .ok (.invokevirtual 109, 3) := by decide +kernel
theorem dX11_become_19 : decode cX11_become 19 = .ok (.pop, 1) := by decide +kernel
theorem dX11_become_20 : decode cX11_become 20 = .ok (.aload_n 0, 1) := by decide +kernel
theorem dX11_become_21 : decode cX11_become 21 = .ok (.getfield 86, 3) := by decide +kernel
theorem dX11_become_24 : decode cX11_become 24 = .ok (.invokevirtual 143, 3) := by decide +kernel
theorem dX11_become_27 : decode cX11_become 27 = .ok (.aload_n 0, 1) := by decide +kernel
theorem dX11_become_28 : decode cX11_become 28 = .ok (.getfield 34, 3) := by decide +kernel
theorem dX11_become_31 : decode cX11_become 31 = .ok (.invokevirtual 94, 3) := by decide +kernel
theorem dX11_become_34 : decode cX11_become 34 = .ok (.ireturn, 1) := by decide +kernel
set_option maxRecDepth 20000 in
theorem ggX11_marksOf_X5_length : GoodIn wsX11_marksOf wsX5_length := goodIn_r _ [6, 7, 13, 14] (by decide +kernel) (by decide +kernel)
set_option maxRecDepth 20000 in
theorem gX11_marksOf_X5_length : GoodIn wsX11_marksOf (wsV RX11 94 RX5 yX5_length wsX5_length) := goodIn_app (goodIn_of _ (by decide +kernel)) ggX11_marksOf_X5_length
set_option maxRecDepth 20000 in
theorem ggX11_marksOf_X5_get : GoodIn wsX11_marksOf wsX5_get := goodIn_r _ [11, 7, 12, 13, 14] (by decide +kernel) (by decide +kernel)
set_option maxRecDepth 20000 in
theorem gX11_marksOf_X5_get : GoodIn wsX11_marksOf (wsV RX11 167 RX5 yX5_get wsX5_get) := goodIn_app (goodIn_of _ (by decide +kernel)) ggX11_marksOf_X5_get
theorem dX11_marksOf_0 : decode cX11_marksOf 0 = .ok (.iconst 0, 1) := by decide +kernel
theorem dX11_marksOf_1 : decode cX11_marksOf 1 = .ok (.istore_n 1, 1) := by decide +kernel
theorem dX11_marksOf_2 : decode cX11_marksOf 2 = .ok (.iconst 0, 1) := by decide +kernel
theorem dX11_marksOf_3 : decode cX11_marksOf 3 = .ok (.istore_n 2, 1) := by decide +kernel
theorem dX11_marksOf_4 : decode cX11_marksOf 4 = .ok (.iload_n 2, 1) := by decide +kernel
theorem dX11_marksOf_5 : decode cX11_marksOf 5 = .ok (.aload_n 0, 1) := by decide +kernel
theorem dX11_marksOf_6 : decode cX11_marksOf 6 = .ok (.invokevirtual 94, 3) := by decide +kernel
theorem dX11_marksOf_9 : decode cX11_marksOf 9 = .ok (.if_icmp .ge 23, 3) := by decide +kernel
theorem dX11_marksOf_12 : decode cX11_marksOf 12 = .ok (.aload_n 0, 1) := by decide +kernel
theorem dX11_marksOf_13 : decode cX11_marksOf 13 = .ok (.iload_n 2, 1) := by decide +kernel
theorem dX11_marksOf_14 : decode cX11_marksOf 14 = .ok (.invokevirtual 167, 3) := by decide +kernel
theorem dX11_marksOf_17 : decode cX11_marksOf 17 = .ok (.ldc_w 261, 3) := by decide +kernel
theorem dX11_marksOf_20 : decode cX11_marksOf 20 = .ok (.if_icmp .ne 6, 3) := by decide +kernel
theorem dX11_marksOf_23 : decode cX11_marksOf 23 = .ok (.iinc 1 1, 3) := by decide +kernel
theorem dX11_marksOf_26 : decode cX11_marksOf 26 = .ok (.iinc 2 1, 3) := by decide +kernel
theorem dX11_marksOf_29 : decode cX11_marksOf 29 = .ok (.goto (-25), 3) := by decide +kernel
theorem dX11_marksOf_32 : decode cX11_marksOf 32 = .ok (.iload_n 1, 1) := by decide +kernel
theorem dX11_marksOf_33 : decode cX11_marksOf 33 = .ok (.ireturn, 1) := by decide +kernel
theorem dX11_isLetter_0 : decode cX11_isLetter 0 = .ok (.iload_n 0, 1) := by decide +kernel
theorem dX11_isLetter_1 : decode cX11_isLetter 1 = .ok (.ifCond .lt 28, 3) := by decide +kernel
theorem dX11_isLetter_4 : decode cX11_isLetter 4 = .ok (.iload_n 0, 1) := by decide +kernel
theorem dX11_isLetter_5 : decode cX11_isLetter 5 = .ok (.ldc_w 262, 3) := by decide +kernel
theorem dX11_isLetter_8 : decode cX11_isLetter 8 = .ok (.if_icmp .gt 21, 3) := by decide +kernel
theorem dX11_isLetter_11 : decode cX11_isLetter 11 = .ok (.iload_n 0, 1) := by decide +kernel
theorem dX11_isLetter_12 : decode cX11_isLetter 12 = .ok (.ldc_w 263, 3) := by decide +kernel
theorem dX11_isLetter_15 : decode cX11_isLetter 15 = .ok (.if_icmp .lt 10, 3) := by decide +kernel
theorem dX11_isLetter_18 : decode cX11_isLetter 18 = .ok (.iload_n 0, 1) := by decide +kernel
theorem dX11_isLetter_19 : decode cX11_isLetter 19 = .ok (.ldc_w 264, 3) := by decide +kernel
theorem dX11_isLetter_22 : decode cX11_isLetter 22 = .ok (.if_icmp .le 7, 3) := by decide +kernel
theorem dX11_isLetter_25 : decode cX11_isLetter 25 = .ok (.iconst 1, 1) := by decide +kernel
theorem dX11_isLetter_26 : decode cX11_isLetter 26 = .ok (.goto 4, 3) := by decide +kernel
theorem dX11_isLetter_29 : decode cX11_isLetter 29 = .ok (.iconst 0, 1) := by decide +kernel
theorem dX11_isLetter_30 : decode cX11_isLetter 30 = .ok (.ireturn, 1) := by decide +kernel
