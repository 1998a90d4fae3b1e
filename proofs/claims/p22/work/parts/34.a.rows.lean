theorem dX1_forgetFreshness_0 : decode cX1_forgetFreshness 0 = .ok (.aload_n 0, 1) := by decide +kernel
theorem dX1_forgetFreshness_1 : decode cX1_forgetFreshness 1 = .ok (.iconst 0, 1) := by decide +kernel
theorem dX1_forgetFreshness_2 : decode cX1_forgetFreshness 2 = .ok (.putfield 72, 3) := by decide +kernel
theorem dX1_forgetFreshness_5 : decode cX1_forgetFreshness 5 = .ok (.return_, 1) := by decide +kernel
theorem dX1_isFresh_0 : decode cX1_isFresh 0 = .ok (.aload_n 0, 1) := by decide +kernel
theorem dX1_isFresh_1 : decode cX1_isFresh 1 = .ok (.getfield 72, 3) := by decide +kernel
theorem dX1_isFresh_4 : decode cX1_isFresh 4 = .ok (.ifCond .eq 19, 3) := by decide +kernel
theorem dX1_isFresh_23 : decode cX1_isFresh 23 = .ok (.iconst 0, 1) := by decide +kernel
theorem dX1_isFresh_24 : decode cX1_isFresh 24 = .ok (.ireturn, 1) := by decide +kernel
theorem dX1_isFresh_7 : decode cX1_isFresh 7 = .ok (.iload_n 1, 1) := by decide +kernel
theorem dX1_isFresh_8 : decode cX1_isFresh 8 = .ok (.ifCond .lt 15, 3) := by decide +kernel
theorem dX1_isFresh_11 : decode cX1_isFresh 11 = .ok (.iload_n 1, 1) := by decide +kernel
theorem dX1_isFresh_12 : decode cX1_isFresh 12 = .ok (.aload_n 0, 1) := by decide +kernel
theorem dX1_isFresh_13 : decode cX1_isFresh 13 = .ok (.getfield 65, 3) := by decide +kernel
theorem dX1_isFresh_16 : decode cX1_isFresh 16 = .ok (.if_icmp .ge 7, 3) := by decide +kernel
theorem dX1_isFresh_19 : decode cX1_isFresh 19 = .ok (.iconst 1, 1) := by decide +kernel
theorem dX1_isFresh_20 : decode cX1_isFresh 20 = .ok (.goto 4, 3) := by decide +kernel
theorem dX1_told_0 : decode cX1_told 0 = .ok (.iload_n 1, 1) := by decide +kernel
theorem dX1_told_1 : decode cX1_told 1 = .ok (.ifCond .lt 11, 3) := by decide +kernel
theorem dX1_told_12 : decode cX1_told 12 = .ok (.iconst (-1), 1) := by decide +kernel
theorem dX1_told_13 : decode cX1_told 13 = .ok (.ireturn, 1) := by decide +kernel
theorem dX1_told_4 : decode cX1_told 4 = .ok (.iload_n 1, 1) := by decide +kernel
theorem dX1_told_5 : decode cX1_told 5 = .ok (.aload_n 0, 1) := by decide +kernel
theorem dX1_told_6 : decode cX1_told 6 = .ok (.getfield 65, 3) := by decide +kernel
theorem dX1_told_9 : decode cX1_told 9 = .ok (.if_icmp .lt 5, 3) := by decide +kernel
theorem dX1_told_14 : decode cX1_told 14 = .ok (.iload_n 2, 1) := by decide +kernel
theorem dX1_told_15 : decode cX1_told 15 = .ok (.tableswitch 57 0 3 #[29, 36, 43, 50], 29) := by decide +kernel
theorem dX1_told_44 : decode cX1_told 44 = .ok (.aload_n 0, 1) := by decide +kernel
theorem dX1_told_45 : decode cX1_told 45 = .ok (.getfield 30, 3) := by decide +kernel
theorem dX1_told_48 : decode cX1_told 48 = .ok (.iload_n 1, 1) := by decide +kernel
theorem dX1_told_49 : decode cX1_told 49 = .ok (.iaload, 1) := by decide +kernel
theorem dX1_told_50 : decode cX1_told 50 = .ok (.ireturn, 1) := by decide +kernel
theorem dX1_told_51 : decode cX1_told 51 = .ok (.aload_n 0, 1) := by decide +kernel
theorem dX1_told_52 : decode cX1_told 52 = .ok (.getfield 33, 3) := by decide +kernel
theorem dX1_told_55 : decode cX1_told 55 = .ok (.iload_n 1, 1) := by decide +kernel
theorem dX1_told_56 : decode cX1_told 56 = .ok (.iaload, 1) := by decide +kernel
theorem dX1_told_57 : decode cX1_told 57 = .ok (.ireturn, 1) := by decide +kernel
theorem dX1_told_58 : decode cX1_told 58 = .ok (.aload_n 0, 1) := by decide +kernel
theorem dX1_told_59 : decode cX1_told 59 = .ok (.getfield 36, 3) := by decide +kernel
theorem dX1_told_62 : decode cX1_told 62 = .ok (.iload_n 1, 1) := by decide +kernel
theorem dX1_told_63 : decode cX1_told 63 = .ok (.iaload, 1) := by decide +kernel
theorem dX1_told_64 : decode cX1_told 64 = .ok (.ireturn, 1) := by decide +kernel
theorem dX1_told_65 : decode cX1_told 65 = .ok (.aload_n 0, 1) := by decide +kernel
theorem dX1_told_66 : decode cX1_told 66 = .ok (.getfield 39, 3) := by decide +kernel
theorem dX1_told_69 : decode cX1_told 69 = .ok (.iload_n 1, 1) := by decide +kernel
theorem dX1_told_70 : decode cX1_told 70 = .ok (.iaload, 1) := by decide +kernel
theorem dX1_told_71 : decode cX1_told 71 = .ok (.ireturn, 1) := by decide +kernel
theorem dX1_told_72 : decode cX1_told 72 = .ok (.iconst (-1), 1) := by decide +kernel
theorem dX1_told_73 : decode cX1_told 73 = .ok (.ireturn, 1) := by decide +kernel
theorem dX1_layOut_0 : decode cX1_layOut 0 = .ok (.aload_n 0, 1) := by decide +kernel
theorem dX1_layOut_1 : decode cX1_layOut 1 = .ok (.getfield 16, 3) := by decide +kernel
theorem dX1_layOut_4 : decode cX1_layOut 4 = .ok (.iconst 0, 1) := by decide +kernel
set_option maxRecDepth 20000 in
theorem ggX1_layOut_X5_cut : GoodIn wsX1_layOut wsX5_cut := goodIn_r _ [10, 11, 78, 79] rfl (by decide +kernel)
set_option maxRecDepth 20000 in
theorem gX1_layOut_X5_cut : GoodIn wsX1_layOut (wsV RX1 88 RX5 yX5_cut wsX5_cut) := goodIn_app (goodIn_r _ [6, 7, 8, 9] rfl (by decide +kernel)) ggX1_layOut_X5_cut
theorem dX1_layOut_5 : decode cX1_layOut 5 = .ok (.invokevirtual 88, 3) := by decide +kernel
theorem dX1_layOut_8 : decode cX1_layOut 8 = .ok (.aload_n 0, 1) := by decide +kernel
theorem dX1_layOut_9 : decode cX1_layOut 9 = .ok (.iconst (-1), 1) := by decide +kernel
theorem dX1_layOut_10 : decode cX1_layOut 10 = .ok (.putfield 82, 3) := by decide +kernel
theorem dX1_layOut_13 : decode cX1_layOut 13 = .ok (.aload_n 0, 1) := by decide +kernel
theorem dX1_layOut_14 : decode cX1_layOut 14 = .ok (.iconst (-1), 1) := by decide +kernel
theorem dX1_layOut_15 : decode cX1_layOut 15 = .ok (.putfield 85, 3) := by decide +kernel
theorem dX1_layOut_18 : decode cX1_layOut 18 = .ok (.iconst 0, 1) := by decide +kernel
theorem dX1_layOut_19 : decode cX1_layOut 19 = .ok (.istore_n 3, 1) := by decide +kernel
theorem dX1_layOut_20 : decode cX1_layOut 20 = .ok (.iload_n 3, 1) := by decide +kernel
theorem dX1_layOut_21 : decode cX1_layOut 21 = .ok (.aload_n 2, 1) := by decide +kernel
set_option maxRecDepth 20000 in
theorem ggX1_layOut_X5_length : GoodIn wsX1_layOut wsX5_length := goodIn_r _ [15, 11, 78, 79] rfl (by decide +kernel)
set_option maxRecDepth 20000 in
theorem gX1_layOut_X5_length : GoodIn wsX1_layOut (wsV RX1 91 RX5 yX5_length wsX5_length) := goodIn_app (goodIn_r _ [12, 13, 14, 9] rfl (by decide +kernel)) ggX1_layOut_X5_length
theorem dX1_layOut_22 : decode cX1_layOut 22 = .ok (.invokevirtual 91, 3) := by decide +kernel
theorem dX1_layOut_25 : decode cX1_layOut 25 = .ok (.if_icmp .ge 72, 3) := by decide +kernel
theorem dX1_layOut_97 : decode cX1_layOut 97 = .ok (.iconst (-1), 1) := by decide +kernel
theorem dX1_layOut_98 : decode cX1_layOut 98 = .ok (.ireturn, 1) := by decide +kernel
theorem dX1_layOut_28 : decode cX1_layOut 28 = .ok (.aload_n 2, 1) := by decide +kernel
theorem dX1_layOut_29 : decode cX1_layOut 29 = .ok (.iload_n 3, 1) := by decide +kernel
set_option maxRecDepth 20000 in
theorem ggX1_layOut_X5_get : GoodIn wsX1_layOut wsX5_get := goodIn_r _ [19, 11, 20, 78, 79] rfl (by decide +kernel)
set_option maxRecDepth 20000 in
theorem gX1_layOut_X5_get : GoodIn wsX1_layOut (wsV RX1 95 RX5 yX5_get wsX5_get) := goodIn_app (goodIn_r _ [16, 17, 18, 9] rfl (by decide +kernel)) ggX1_layOut_X5_get
theorem dX1_layOut_30 : decode cX1_layOut 30 = .ok (.invokevirtual 95, 3) := by decide +kernel
theorem dX1_layOut_33 : decode cX1_layOut 33 = .ok (.ldc 99, 2) := by decide +kernel
theorem dX1_layOut_35 : decode cX1_layOut 35 = .ok (.if_icmp .ne 34, 3) := by decide +kernel
theorem dX1_layOut_69 : decode cX1_layOut 69 = .ok (.aload_n 0, 1) := by decide +kernel
theorem dX1_layOut_70 : decode cX1_layOut 70 = .ok (.getfield 42, 3) := by decide +kernel
theorem dX1_layOut_73 : decode cX1_layOut 73 = .ok (.iload_n 1, 1) := by decide +kernel
theorem dX1_layOut_74 : decode cX1_layOut 74 = .ok (.aload_n 2, 1) := by decide +kernel
theorem dX1_layOut_75 : decode cX1_layOut 75 = .ok (.iload_n 3, 1) := by decide +kernel
theorem dX1_layOut_76 : decode cX1_layOut 76 = .ok (.invokevirtual 95, 3) := by decide +kernel
theorem dX1_layOut_79 : decode cX1_layOut 79 = .ok (.aload_n 0, 1) := by decide +kernel
theorem dX1_layOut_80 : decode cX1_layOut 80 = .ok (.getfield 16, 3) := by decide +kernel
set_option maxRecDepth 20000 in
theorem ggX1_layOut_X2_encode : GoodIn wsX1_layOut wsX2_encode := goodIn_r _ [29, 30, 22, 23, 9, 24, 11, 20, 31, 32, 28, 33, 34, 35, 36, 37, 38, 39, 40, 41, 42, 43, 44, 45, 46, 47, 48, 49, 50, 51, 52, 53, 54, 55, 56, 57, 78, 79, 80, 81, 82, 83, 84, 85] rfl (by decide +kernel)
set_option maxRecDepth 20000 in
theorem gX1_layOut_X2_encode : GoodIn wsX1_layOut (wsV RX1 104 RX2 yX2_encode wsX2_encode) := goodIn_app (goodIn_r _ [25, 26, 27, 28] rfl (by decide +kernel)) ggX1_layOut_X2_encode
theorem dX1_layOut_83 : decode cX1_layOut 83 = .ok (.invokevirtual 104, 3) := by decide +kernel
theorem dX1_layOut_86 : decode cX1_layOut 86 = .ok (.ifCond .ne 5, 3) := by decide +kernel
theorem dX1_layOut_91 : decode cX1_layOut 91 = .ok (.iinc 3 1, 3) := by decide +kernel
theorem dX1_layOut_94 : decode cX1_layOut 94 = .ok (.goto (-74), 3) := by decide +kernel
theorem dX1_layOut_89 : decode cX1_layOut 89 = .ok (.iload_n 3, 1) := by decide +kernel
theorem dX1_layOut_90 : decode cX1_layOut 90 = .ok (.ireturn, 1) := by decide +kernel
theorem dX1_layOut_38 : decode cX1_layOut 38 = .ok (.aload_n 0, 1) := by decide +kernel
theorem dX1_layOut_39 : decode cX1_layOut 39 = .ok (.aload_n 0, 1) := by decide +kernel
theorem dX1_layOut_40 : decode cX1_layOut 40 = .ok (.getfield 85, 3) := by decide +kernel
theorem dX1_layOut_43 : decode cX1_layOut 43 = .ok (.putfield 82, 3) := by decide +kernel
theorem dX1_layOut_46 : decode cX1_layOut 46 = .ok (.aload_n 0, 1) := by decide +kernel
theorem dX1_layOut_47 : decode cX1_layOut 47 = .ok (.aload_n 0, 1) := by decide +kernel
theorem dX1_layOut_48 : decode cX1_layOut 48 = .ok (.getfield 16, 3) := by decide +kernel
theorem dX1_layOut_51 : decode cX1_layOut 51 = .ok (.invokevirtual 91, 3) := by decide +kernel
theorem dX1_layOut_54 : decode cX1_layOut 54 = .ok (.putfield 85, 3) := by decide +kernel
theorem dX1_layOut_57 : decode cX1_layOut 57 = .ok (.aload_n 0, 1) := by decide +kernel
theorem dX1_layOut_58 : decode cX1_layOut 58 = .ok (.getfield 16, 3) := by decide +kernel
theorem dX1_layOut_61 : decode cX1_layOut 61 = .ok (.iconst 0, 1) := by decide +kernel
set_option maxRecDepth 20000 in
theorem ggX1_layOut_X5_add : GoodIn wsX1_layOut wsX5_add := goodIn_r _ [24, 11, 20, 78, 79] rfl (by decide +kernel)
set_option maxRecDepth 20000 in
theorem gX1_layOut_X5_add : GoodIn wsX1_layOut (wsV RX1 100 RX5 yX5_add wsX5_add) := goodIn_app (goodIn_r _ [21, 22, 23, 9] rfl (by decide +kernel)) ggX1_layOut_X5_add
theorem dX1_layOut_62 : decode cX1_layOut 62 = .ok (.invokevirtual 100, 3) := by decide +kernel
theorem dX1_layOut_65 : decode cX1_layOut 65 = .ok (.pop, 1) := by decide +kernel
theorem dX1_layOut_66 : decode cX1_layOut 66 = .ok (.goto 25, 3) := by decide +kernel
theorem dX1_findTails_0 : decode cX1_findTails 0 = .ok (.aload_n 0, 1) := by decide +kernel
theorem dX1_findTails_1 : decode cX1_findTails 1 = .ok (.getfield 16, 3) := by decide +kernel
set_option maxRecDepth 20000 in
theorem ggX1_findTails_X5_length : GoodIn wsX1_findTails wsX5_length := goodIn_r _ [17, 18, 111, 112] rfl (by decide +kernel)
set_option maxRecDepth 20000 in
theorem gX1_findTails_X5_length : GoodIn wsX1_findTails (wsV RX1 91 RX5 yX5_length wsX5_length) := goodIn_app (goodIn_r _ [13, 14, 15, 16] rfl (by decide +kernel)) ggX1_findTails_X5_length
theorem dX1_findTails_4 : decode cX1_findTails 4 = .ok (.invokevirtual 91, 3) := by decide +kernel
theorem dX1_findTails_7 : decode cX1_findTails 7 = .ok (.sipush 800, 3) := by decide +kernel
theorem dX1_findTails_10 : decode cX1_findTails 10 = .ok (.invokestatic 135, 3) := by decide +kernel
theorem dX1_findTails_13 : decode cX1_findTails 13 = .ok (.istore_n 1, 1) := by decide +kernel
theorem dX1_findTails_14 : decode cX1_findTails 14 = .ok (.aload_n 0, 1) := by decide +kernel
theorem dX1_findTails_15 : decode cX1_findTails 15 = .ok (.getfield 20, 3) := by decide +kernel
theorem dX1_findTails_18 : decode cX1_findTails 18 = .ok (.iload_n 1, 1) := by decide +kernel
theorem dX1_findTails_19 : decode cX1_findTails 19 = .ok (.bipush 32, 2) := by decide +kernel
theorem dX1_findTails_21 : decode cX1_findTails 21 = .ok (.iastore, 1) := by decide +kernel
theorem dX1_findTails_22 : decode cX1_findTails 22 = .ok (.aload_n 0, 1) := by decide +kernel
theorem dX1_findTails_23 : decode cX1_findTails 23 = .ok (.getfield 24, 3) := by decide +kernel
theorem dX1_findTails_26 : decode cX1_findTails 26 = .ok (.iload_n 1, 1) := by decide +kernel
theorem dX1_findTails_27 : decode cX1_findTails 27 = .ok (.iconst 0, 1) := by decide +kernel
theorem dX1_findTails_28 : decode cX1_findTails 28 = .ok (.iastore, 1) := by decide +kernel
theorem dX1_findTails_29 : decode cX1_findTails 29 = .ok (.aload_n 0, 1) := by decide +kernel
theorem dX1_findTails_30 : decode cX1_findTails 30 = .ok (.getfield 27, 3) := by decide +kernel
theorem dX1_findTails_33 : decode cX1_findTails 33 = .ok (.iload_n 1, 1) := by decide +kernel
theorem dX1_findTails_34 : decode cX1_findTails 34 = .ok (.iconst 0, 1) := by decide +kernel
theorem dX1_findTails_35 : decode cX1_findTails 35 = .ok (.iastore, 1) := by decide +kernel
theorem dX1_findTails_36 : decode cX1_findTails 36 = .ok (.iload_n 1, 1) := by decide +kernel
theorem dX1_findTails_37 : decode cX1_findTails 37 = .ok (.iconst 1, 1) := by decide +kernel
theorem dX1_findTails_38 : decode cX1_findTails 38 = .ok (.isub, 1) := by decide +kernel
theorem dX1_findTails_39 : decode cX1_findTails 39 = .ok (.istore_n 2, 1) := by decide +kernel
theorem dX1_findTails_40 : decode cX1_findTails 40 = .ok (.iload_n 2, 1) := by decide +kernel
theorem dX1_findTails_41 : decode cX1_findTails 41 = .ok (.aload_n 0, 1) := by decide +kernel
theorem dX1_findTails_42 : decode cX1_findTails 42 = .ok (.getfield 85, 3) := by decide +kernel
theorem dX1_findTails_45 : decode cX1_findTails 45 = .ok (.if_icmp .le 140, 3) := by decide +kernel
theorem dX1_findTails_185 : decode cX1_findTails 185 = .ok (.return_, 1) := by decide +kernel
theorem dX1_findTails_48 : decode cX1_findTails 48 = .ok (.iload_n 2, 1) := by decide +kernel
theorem dX1_findTails_49 : decode cX1_findTails 49 = .ok (.ifCond .lt 136, 3) := by decide +kernel
theorem dX1_findTails_52 : decode cX1_findTails 52 = .ok (.aload_n 0, 1) := by decide +kernel
theorem dX1_findTails_53 : decode cX1_findTails 53 = .ok (.getfield 42, 3) := by decide +kernel
theorem dX1_findTails_56 : decode cX1_findTails 56 = .ok (.aload_n 0, 1) := by decide +kernel
theorem dX1_findTails_57 : decode cX1_findTails 57 = .ok (.getfield 76, 3) := by decide +kernel
theorem dX1_findTails_60 : decode cX1_findTails 60 = .ok (.aload_n 0, 1) := by decide +kernel
theorem dX1_findTails_61 : decode cX1_findTails 61 = .ok (.getfield 16, 3) := by decide +kernel
theorem dX1_findTails_64 : decode cX1_findTails 64 = .ok (.iload_n 2, 1) := by decide +kernel
theorem dX1_findTails_65 : decode cX1_findTails 65 = .ok (.iload_n 1, 1) := by decide +kernel
set_option maxRecDepth 20000 in
theorem ggX1_findTails_X2_decode : GoodIn wsX1_findTails wsX2_decode := goodIn_r _ [23, 24, 25, 26, 16, 27, 18, 28, 29, 30, 31, 22, 32, 33, 34, 35, 36, 37, 38, 39, 40, 41, 42, 43, 44, 45, 46, 47, 48, 49, 50, 51, 52, 53, 54, 55, 56, 57, 58, 59, 60, 61, 62, 111, 112, 113, 114, 115, 116, 117, 118] rfl (by decide +kernel)
set_option maxRecDepth 20000 in
theorem gX1_findTails_X2_decode : GoodIn wsX1_findTails (wsV RX1 140 RX2 yX2_decode wsX2_decode) := goodIn_app (goodIn_r _ [19, 20, 21, 22] rfl (by decide +kernel)) ggX1_findTails_X2_decode
theorem dX1_findTails_66 : decode cX1_findTails 66 = .ok (.invokevirtual 140, 3) := by decide +kernel
theorem dX1_findTails_69 : decode cX1_findTails 69 = .ok (.istore_n 3, 1) := by decide +kernel
theorem dX1_findTails_70 : decode cX1_findTails 70 = .ok (.iload_n 3, 1) := by decide +kernel
theorem dX1_findTails_71 : decode cX1_findTails 71 = .ok (.iconst (-1), 1) := by decide +kernel
theorem dX1_findTails_72 : decode cX1_findTails 72 = .ok (.if_icmp .ne 7, 3) := by decide +kernel
theorem dX1_findTails_79 : decode cX1_findTails 79 = .ok (.iload_n 2, 1) := by decide +kernel
theorem dX1_findTails_80 : decode cX1_findTails 80 = .ok (.iload_n 3, 1) := by decide +kernel
set_option maxRecDepth 20000 in
theorem ggX1_findTails_X2_bytesIn : GoodIn wsX1_findTails wsX2_bytesIn := goodIn_r _ [65] rfl (by decide +kernel)
set_option maxRecDepth 20000 in
theorem gX1_findTails_X2_bytesIn : GoodIn wsX1_findTails (va_wsS RX1 144 yX2_bytesIn wsX2_bytesIn) := goodIn_app (goodIn_r _ [63, 64, 22] rfl (by decide +kernel)) ggX1_findTails_X2_bytesIn
theorem dX1_findTails_81 : decode cX1_findTails 81 = .ok (.invokestatic 144, 3) := by decide +kernel
theorem dX1_findTails_84 : decode cX1_findTails 84 = .ok (.iadd, 1) := by decide +kernel
theorem dX1_findTails_85 : decode cX1_findTails 85 = .ok (.istore 4, 2) := by decide +kernel
theorem dX1_findTails_87 : decode cX1_findTails 87 = .ok (.iload 4, 2) := by decide +kernel
theorem dX1_findTails_89 : decode cX1_findTails 89 = .ok (.iload_n 2, 1) := by decide +kernel
theorem dX1_findTails_90 : decode cX1_findTails 90 = .ok (.if_icmp .le 20, 3) := by decide +kernel
theorem dX1_findTails_110 : decode cX1_findTails 110 = .ok (.aload_n 0, 1) := by decide +kernel
theorem dX1_findTails_111 : decode cX1_findTails 111 = .ok (.getfield 27, 3) := by decide +kernel
theorem dX1_findTails_114 : decode cX1_findTails 114 = .ok (.iload_n 2, 1) := by decide +kernel
theorem dX1_findTails_115 : decode cX1_findTails 115 = .ok (.iconst (-1), 1) := by decide +kernel
theorem dX1_findTails_116 : decode cX1_findTails 116 = .ok (.iastore, 1) := by decide +kernel
theorem dX1_findTails_117 : decode cX1_findTails 117 = .ok (.goto 62, 3) := by decide +kernel
theorem dX1_findTails_179 : decode cX1_findTails 179 = .ok (.iinc 2 (-1), 3) := by decide +kernel
theorem dX1_findTails_182 : decode cX1_findTails 182 = .ok (.goto (-142), 3) := by decide +kernel
theorem dX1_findTails_93 : decode cX1_findTails 93 = .ok (.iload 4, 2) := by decide +kernel
theorem dX1_findTails_95 : decode cX1_findTails 95 = .ok (.iload_n 1, 1) := by decide +kernel
theorem dX1_findTails_96 : decode cX1_findTails 96 = .ok (.if_icmp .gt 14, 3) := by decide +kernel
theorem dX1_findTails_99 : decode cX1_findTails 99 = .ok (.aload_n 0, 1) := by decide +kernel
theorem dX1_findTails_100 : decode cX1_findTails 100 = .ok (.getfield 27, 3) := by decide +kernel
theorem dX1_findTails_103 : decode cX1_findTails 103 = .ok (.iload 4, 2) := by decide +kernel
theorem dX1_findTails_105 : decode cX1_findTails 105 = .ok (.iaload, 1) := by decide +kernel
theorem dX1_findTails_106 : decode cX1_findTails 106 = .ok (.iconst (-1), 1) := by decide +kernel
theorem dX1_findTails_107 : decode cX1_findTails 107 = .ok (.if_icmp .ne 13, 3) := by decide +kernel
theorem dX1_findTails_120 : decode cX1_findTails 120 = .ok (.aload_n 0, 1) := by decide +kernel
theorem dX1_findTails_121 : decode cX1_findTails 121 = .ok (.getfield 20, 3) := by decide +kernel
theorem dX1_findTails_124 : decode cX1_findTails 124 = .ok (.iload_n 2, 1) := by decide +kernel
theorem dX1_findTails_125 : decode cX1_findTails 125 = .ok (.iload_n 3, 1) := by decide +kernel
set_option maxRecDepth 20000 in
theorem ggX1_findTails_X2_letterIn : GoodIn wsX1_findTails wsX2_letterIn := goodIn_r _ [68] rfl (by decide +kernel)
set_option maxRecDepth 20000 in
theorem gX1_findTails_X2_letterIn : GoodIn wsX1_findTails (va_wsS RX1 147 yX2_letterIn wsX2_letterIn) := goodIn_app (goodIn_r _ [66, 67, 22] rfl (by decide +kernel)) ggX1_findTails_X2_letterIn
theorem dX1_findTails_126 : decode cX1_findTails 126 = .ok (.invokestatic 147, 3) := by decide +kernel
theorem dX1_findTails_129 : decode cX1_findTails 129 = .ok (.iastore, 1) := by decide +kernel
theorem dX1_findTails_130 : decode cX1_findTails 130 = .ok (.aload_n 0, 1) := by decide +kernel
theorem dX1_findTails_131 : decode cX1_findTails 131 = .ok (.getfield 24, 3) := by decide +kernel
theorem dX1_findTails_134 : decode cX1_findTails 134 = .ok (.iload_n 2, 1) := by decide +kernel
theorem dX1_findTails_135 : decode cX1_findTails 135 = .ok (.aload_n 0, 1) := by decide +kernel
theorem dX1_findTails_136 : decode cX1_findTails 136 = .ok (.getfield 24, 3) := by decide +kernel
theorem dX1_findTails_139 : decode cX1_findTails 139 = .ok (.iload 4, 2) := by decide +kernel
theorem dX1_findTails_141 : decode cX1_findTails 141 = .ok (.iaload, 1) := by decide +kernel
theorem dX1_findTails_142 : decode cX1_findTails 142 = .ok (.aload_n 0, 1) := by decide +kernel
theorem dX1_findTails_143 : decode cX1_findTails 143 = .ok (.getfield 46, 3) := by decide +kernel
theorem dX1_findTails_146 : decode cX1_findTails 146 = .ok (.aload_n 0, 1) := by decide +kernel
theorem dX1_findTails_147 : decode cX1_findTails 147 = .ok (.getfield 20, 3) := by decide +kernel
theorem dX1_findTails_150 : decode cX1_findTails 150 = .ok (.iload_n 2, 1) := by decide +kernel
theorem dX1_findTails_151 : decode cX1_findTails 151 = .ok (.iaload, 1) := by decide +kernel
theorem dX1_findTails_152 : decode cX1_findTails 152 = .ok (.aload_n 0, 1) := by decide +kernel
theorem dX1_findTails_153 : decode cX1_findTails 153 = .ok (.getfield 20, 3) := by decide +kernel
theorem dX1_findTails_156 : decode cX1_findTails 156 = .ok (.iload 4, 2) := by decide +kernel
theorem dX1_findTails_158 : decode cX1_findTails 158 = .ok (.iaload, 1) := by decide +kernel
set_option maxRecDepth 20000 in
theorem ggX1_findTails_X3_of : GoodIn wsX1_findTails wsX3_of := goodIn_r _ [73, 74, 75, 76, 77, 78, 72, 79, 80, 81, 82, 83, 84, 85, 86, 87, 88, 89, 90, 119, 120, 121] rfl (by decide +kernel)
set_option maxRecDepth 20000 in
theorem gX1_findTails_X3_of : GoodIn wsX1_findTails (wsV RX1 150 RX3 yX3_of wsX3_of) := goodIn_app (goodIn_r _ [69, 70, 71, 72] rfl (by decide +kernel)) ggX1_findTails_X3_of
theorem dX1_findTails_159 : decode cX1_findTails 159 = .ok (.invokevirtual 150, 3) := by decide +kernel
theorem dX1_findTails_162 : decode cX1_findTails 162 = .ok (.iadd, 1) := by decide +kernel
theorem dX1_findTails_163 : decode cX1_findTails 163 = .ok (.iastore, 1) := by decide +kernel
theorem dX1_findTails_164 : decode cX1_findTails 164 = .ok (.aload_n 0, 1) := by decide +kernel
theorem dX1_findTails_165 : decode cX1_findTails 165 = .ok (.getfield 27, 3) := by decide +kernel
theorem dX1_findTails_168 : decode cX1_findTails 168 = .ok (.iload_n 2, 1) := by decide +kernel
theorem dX1_findTails_169 : decode cX1_findTails 169 = .ok (.aload_n 0, 1) := by decide +kernel
theorem dX1_findTails_170 : decode cX1_findTails 170 = .ok (.getfield 27, 3) := by decide +kernel
theorem dX1_findTails_173 : decode cX1_findTails 173 = .ok (.iload 4, 2) := by decide +kernel
theorem dX1_findTails_175 : decode cX1_findTails 175 = .ok (.iaload, 1) := by decide +kernel
theorem dX1_findTails_176 : decode cX1_findTails 176 = .ok (.iconst 1, 1) := by decide +kernel
theorem dX1_findTails_177 : decode cX1_findTails 177 = .ok (.iadd, 1) := by decide +kernel
theorem dX1_findTails_178 : decode cX1_findTails 178 = .ok (.iastore, 1) := by decide +kernel
theorem dX1_findTails_75 : decode cX1_findTails 75 = .ok (.iconst (-1), 1) := by decide +kernel
theorem dX1_findTails_76 : decode cX1_findTails 76 = .ok (.goto 9, 3) := by decide +kernel
theorem dX1_comesBack_0 : decode cX1_comesBack 0 = .ok (.aload_n 0, 1) := by decide +kernel
theorem dX1_comesBack_1 : decode cX1_comesBack 1 = .ok (.getfield 16, 3) := by decide +kernel
set_option maxRecDepth 20000 in
theorem ggX1_comesBack_X5_length : GoodIn wsX1_comesBack wsX5_length := goodIn_r _ [10, 11, 76, 77] rfl (by decide +kernel)
set_option maxRecDepth 20000 in
theorem gX1_comesBack_X5_length : GoodIn wsX1_comesBack (wsV RX1 91 RX5 yX5_length wsX5_length) := goodIn_app (goodIn_r _ [6, 7, 8, 9] rfl (by decide +kernel)) ggX1_comesBack_X5_length
theorem dX1_comesBack_4 : decode cX1_comesBack 4 = .ok (.invokevirtual 91, 3) := by decide +kernel
theorem dX1_comesBack_7 : decode cX1_comesBack 7 = .ok (.istore_n 1, 1) := by decide +kernel
theorem dX1_comesBack_8 : decode cX1_comesBack 8 = .ok (.aload_n 0, 1) := by decide +kernel
theorem dX1_comesBack_9 : decode cX1_comesBack 9 = .ok (.getfield 42, 3) := by decide +kernel
theorem dX1_comesBack_12 : decode cX1_comesBack 12 = .ok (.aload_n 0, 1) := by decide +kernel
theorem dX1_comesBack_13 : decode cX1_comesBack 13 = .ok (.getfield 79, 3) := by decide +kernel
theorem dX1_comesBack_16 : decode cX1_comesBack 16 = .ok (.aload_n 0, 1) := by decide +kernel
theorem dX1_comesBack_17 : decode cX1_comesBack 17 = .ok (.getfield 16, 3) := by decide +kernel
theorem dX1_comesBack_20 : decode cX1_comesBack 20 = .ok (.aload_n 0, 1) := by decide +kernel
theorem dX1_comesBack_21 : decode cX1_comesBack 21 = .ok (.getfield 85, 3) := by decide +kernel
theorem dX1_comesBack_24 : decode cX1_comesBack 24 = .ok (.iload_n 1, 1) := by decide +kernel
set_option maxRecDepth 20000 in
theorem ggX1_comesBack_X2_decode : GoodIn wsX1_comesBack wsX2_decode := goodIn_r _ [16, 17, 18, 19, 9, 20, 11, 21, 22, 23, 24, 15, 25, 26, 27, 28, 29, 30, 31, 32, 33, 34, 35, 36, 37, 38, 39, 40, 41, 42, 43, 44, 45, 46, 47, 48, 49, 50, 51, 52, 53, 54, 55, 76, 77, 78, 79, 80, 81, 82, 83] rfl (by decide +kernel)
set_option maxRecDepth 20000 in
theorem gX1_comesBack_X2_decode : GoodIn wsX1_comesBack (wsV RX1 140 RX2 yX2_decode wsX2_decode) := goodIn_app (goodIn_r _ [12, 13, 14, 15] rfl (by decide +kernel)) ggX1_comesBack_X2_decode
theorem dX1_comesBack_25 : decode cX1_comesBack 25 = .ok (.invokevirtual 140, 3) := by decide +kernel
theorem dX1_comesBack_28 : decode cX1_comesBack 28 = .ok (.iconst (-1), 1) := by decide +kernel
theorem dX1_comesBack_29 : decode cX1_comesBack 29 = .ok (.if_icmp .ne 39, 3) := by decide +kernel
theorem dX1_comesBack_68 : decode cX1_comesBack 68 = .ok (.iconst 0, 1) := by decide +kernel
theorem dX1_comesBack_69 : decode cX1_comesBack 69 = .ok (.ireturn, 1) := by decide +kernel
theorem dX1_comesBack_32 : decode cX1_comesBack 32 = .ok (.aload_n 0, 1) := by decide +kernel
theorem dX1_comesBack_33 : decode cX1_comesBack 33 = .ok (.getfield 82, 3) := by decide +kernel
theorem dX1_comesBack_36 : decode cX1_comesBack 36 = .ok (.iconst (-1), 1) := by decide +kernel
theorem dX1_comesBack_37 : decode cX1_comesBack 37 = .ok (.if_icmp .eq 27, 3) := by decide +kernel
theorem dX1_comesBack_64 : decode cX1_comesBack 64 = .ok (.iconst 1, 1) := by decide +kernel
theorem dX1_comesBack_65 : decode cX1_comesBack 65 = .ok (.goto 4, 3) := by decide +kernel
theorem dX1_comesBack_40 : decode cX1_comesBack 40 = .ok (.aload_n 0, 1) := by decide +kernel
theorem dX1_comesBack_41 : decode cX1_comesBack 41 = .ok (.getfield 42, 3) := by decide +kernel
theorem dX1_comesBack_44 : decode cX1_comesBack 44 = .ok (.aload_n 0, 1) := by decide +kernel
theorem dX1_comesBack_45 : decode cX1_comesBack 45 = .ok (.getfield 79, 3) := by decide +kernel
theorem dX1_comesBack_48 : decode cX1_comesBack 48 = .ok (.aload_n 0, 1) := by decide +kernel
theorem dX1_comesBack_49 : decode cX1_comesBack 49 = .ok (.getfield 16, 3) := by decide +kernel
theorem dX1_comesBack_52 : decode cX1_comesBack 52 = .ok (.aload_n 0, 1) := by decide +kernel
theorem dX1_comesBack_53 : decode cX1_comesBack 53 = .ok (.getfield 82, 3) := by decide +kernel
theorem dX1_comesBack_56 : decode cX1_comesBack 56 = .ok (.iload_n 1, 1) := by decide +kernel
theorem dX1_comesBack_57 : decode cX1_comesBack 57 = .ok (.invokevirtual 140, 3) := by decide +kernel
theorem dX1_comesBack_60 : decode cX1_comesBack 60 = .ok (.iconst (-1), 1) := by decide +kernel
theorem dX1_comesBack_61 : decode cX1_comesBack 61 = .ok (.if_icmp .ne 7, 3) := by decide +kernel
theorem dX1_keep_0 : decode cX1_keep 0 = .ok (.aload_n 0, 1) := by decide +kernel
theorem dX1_keep_1 : decode cX1_keep 1 = .ok (.getfield 65, 3) := by decide +kernel
theorem dX1_keep_4 : decode cX1_keep 4 = .ok (.sipush 200, 3) := by decide +kernel
theorem dX1_keep_7 : decode cX1_keep 7 = .ok (.if_icmp .ne 16, 3) := by decide +kernel
theorem dX1_keep_23 : decode cX1_keep 23 = .ok (.aload_n 0, 1) := by decide +kernel
theorem dX1_keep_24 : decode cX1_keep 24 = .ok (.getfield 65, 3) := by decide +kernel
theorem dX1_keep_27 : decode cX1_keep 27 = .ok (.sipush 199, 3) := by decide +kernel
theorem dX1_keep_30 : decode cX1_keep 30 = .ok (.invokestatic 135, 3) := by decide +kernel
theorem dX1_keep_33 : decode cX1_keep 33 = .ok (.istore 5, 2) := by decide +kernel
theorem dX1_keep_35 : decode cX1_keep 35 = .ok (.aload_n 0, 1) := by decide +kernel
theorem dX1_keep_36 : decode cX1_keep 36 = .ok (.iload 5, 2) := by decide +kernel
theorem dX1_keep_38 : decode cX1_keep 38 = .ok (.iconst 1, 1) := by decide +kernel
theorem dX1_keep_39 : decode cX1_keep 39 = .ok (.iadd, 1) := by decide +kernel
theorem dX1_keep_40 : decode cX1_keep 40 = .ok (.putfield 65, 3) := by decide +kernel
theorem dX1_keep_43 : decode cX1_keep 43 = .ok (.iload 5, 2) := by decide +kernel
theorem dX1_keep_45 : decode cX1_keep 45 = .ok (.ifCond .le 86, 3) := by decide +kernel
theorem dX1_keep_131 : decode cX1_keep 131 = .ok (.aload_n 0, 1) := by decide +kernel
theorem dX1_keep_132 : decode cX1_keep 132 = .ok (.getfield 30, 3) := by decide +kernel
theorem dX1_keep_135 : decode cX1_keep 135 = .ok (.iload 5, 2) := by decide +kernel
theorem dX1_keep_137 : decode cX1_keep 137 = .ok (.iload_n 1, 1) := by decide +kernel
theorem dX1_keep_138 : decode cX1_keep 138 = .ok (.iconst (-1), 1) := by decide +kernel
theorem dX1_keep_139 : decode cX1_keep 139 = .ok (.if_icmp .ne 7, 3) := by decide +kernel
theorem dX1_keep_146 : decode cX1_keep 146 = .ok (.iload_n 1, 1) := by decide +kernel
theorem dX1_keep_147 : decode cX1_keep 147 = .ok (.iastore, 1) := by decide +kernel
theorem dX1_keep_148 : decode cX1_keep 148 = .ok (.aload_n 0, 1) := by decide +kernel
theorem dX1_keep_149 : decode cX1_keep 149 = .ok (.getfield 33, 3) := by decide +kernel
theorem dX1_keep_152 : decode cX1_keep 152 = .ok (.iload 5, 2) := by decide +kernel
theorem dX1_keep_154 : decode cX1_keep 154 = .ok (.iload_n 1, 1) := by decide +kernel
theorem dX1_keep_155 : decode cX1_keep 155 = .ok (.iconst (-1), 1) := by decide +kernel
theorem dX1_keep_156 : decode cX1_keep 156 = .ok (.if_icmp .ne 7, 3) := by decide +kernel
theorem dX1_keep_163 : decode cX1_keep 163 = .ok (.iload_n 2, 1) := by decide +kernel
theorem dX1_keep_164 : decode cX1_keep 164 = .ok (.iastore, 1) := by decide +kernel
theorem dX1_keep_165 : decode cX1_keep 165 = .ok (.aload_n 0, 1) := by decide +kernel
theorem dX1_keep_166 : decode cX1_keep 166 = .ok (.getfield 36, 3) := by decide +kernel
theorem dX1_keep_169 : decode cX1_keep 169 = .ok (.iload 5, 2) := by decide +kernel
theorem dX1_keep_171 : decode cX1_keep 171 = .ok (.iload_n 3, 1) := by decide +kernel
theorem dX1_keep_172 : decode cX1_keep 172 = .ok (.iastore, 1) := by decide +kernel
theorem dX1_keep_173 : decode cX1_keep 173 = .ok (.aload_n 0, 1) := by decide +kernel
theorem dX1_keep_174 : decode cX1_keep 174 = .ok (.getfield 39, 3) := by decide +kernel
theorem dX1_keep_177 : decode cX1_keep 177 = .ok (.iload 5, 2) := by decide +kernel
theorem dX1_keep_179 : decode cX1_keep 179 = .ok (.iload 4, 2) := by decide +kernel
theorem dX1_keep_181 : decode cX1_keep 181 = .ok (.iastore, 1) := by decide +kernel
theorem dX1_keep_182 : decode cX1_keep 182 = .ok (.return_, 1) := by decide +kernel
theorem dX1_keep_142 : decode cX1_keep 142 = .ok (.iload_n 2, 1) := by decide +kernel
theorem dX1_keep_143 : decode cX1_keep 143 = .ok (.goto 4, 3) := by decide +kernel
theorem dX1_keep_159 : decode cX1_keep 159 = .ok (.iconst (-1), 1) := by decide +kernel
theorem dX1_keep_160 : decode cX1_keep 160 = .ok (.goto 4, 3) := by decide +kernel
theorem dX1_keep_48 : decode cX1_keep 48 = .ok (.aload_n 0, 1) := by decide +kernel
theorem dX1_keep_49 : decode cX1_keep 49 = .ok (.getfield 36, 3) := by decide +kernel
theorem dX1_keep_52 : decode cX1_keep 52 = .ok (.iload 5, 2) := by decide +kernel
theorem dX1_keep_54 : decode cX1_keep 54 = .ok (.iconst 1, 1) := by decide +kernel
theorem dX1_keep_55 : decode cX1_keep 55 = .ok (.isub, 1) := by decide +kernel
theorem dX1_keep_56 : decode cX1_keep 56 = .ok (.iaload, 1) := by decide +kernel
theorem dX1_keep_57 : decode cX1_keep 57 = .ok (.iload_n 3, 1) := by decide +kernel
theorem dX1_keep_58 : decode cX1_keep 58 = .ok (.if_icmp .le 73, 3) := by decide +kernel
theorem dX1_keep_61 : decode cX1_keep 61 = .ok (.aload_n 0, 1) := by decide +kernel
theorem dX1_keep_62 : decode cX1_keep 62 = .ok (.getfield 30, 3) := by decide +kernel
theorem dX1_keep_65 : decode cX1_keep 65 = .ok (.iload 5, 2) := by decide +kernel
theorem dX1_keep_67 : decode cX1_keep 67 = .ok (.aload_n 0, 1) := by decide +kernel
theorem dX1_keep_68 : decode cX1_keep 68 = .ok (.getfield 30, 3) := by decide +kernel
theorem dX1_keep_71 : decode cX1_keep 71 = .ok (.iload 5, 2) := by decide +kernel
theorem dX1_keep_73 : decode cX1_keep 73 = .ok (.iconst 1, 1) := by decide +kernel
theorem dX1_keep_74 : decode cX1_keep 74 = .ok (.isub, 1) := by decide +kernel
theorem dX1_keep_75 : decode cX1_keep 75 = .ok (.iaload, 1) := by decide +kernel
theorem dX1_keep_76 : decode cX1_keep 76 = .ok (.iastore, 1) := by decide +kernel
theorem dX1_keep_77 : decode cX1_keep 77 = .ok (.aload_n 0, 1) := by decide +kernel
theorem dX1_keep_78 : decode cX1_keep 78 = .ok (.getfield 33, 3) := by decide +kernel
theorem dX1_keep_81 : decode cX1_keep 81 = .ok (.iload 5, 2) := by decide +kernel
theorem dX1_keep_83 : decode cX1_keep 83 = .ok (.aload_n 0, 1) := by decide +kernel
theorem dX1_keep_84 : decode cX1_keep 84 = .ok (.getfield 33, 3) := by decide +kernel
theorem dX1_keep_87 : decode cX1_keep 87 = .ok (.iload 5, 2) := by decide +kernel
theorem dX1_keep_89 : decode cX1_keep 89 = .ok (.iconst 1, 1) := by decide +kernel
theorem dX1_keep_90 : decode cX1_keep 90 = .ok (.isub, 1) := by decide +kernel
theorem dX1_keep_91 : decode cX1_keep 91 = .ok (.iaload, 1) := by decide +kernel
theorem dX1_keep_92 : decode cX1_keep 92 = .ok (.iastore, 1) := by decide +kernel
theorem dX1_keep_93 : decode cX1_keep 93 = .ok (.aload_n 0, 1) := by decide +kernel
theorem dX1_keep_94 : decode cX1_keep 94 = .ok (.getfield 36, 3) := by decide +kernel
theorem dX1_keep_97 : decode cX1_keep 97 = .ok (.iload 5, 2) := by decide +kernel
theorem dX1_keep_99 : decode cX1_keep 99 = .ok (.aload_n 0, 1) := by decide +kernel
theorem dX1_keep_100 : decode cX1_keep 100 = .ok (.getfield 36, 3) := by decide +kernel
theorem dX1_keep_103 : decode cX1_keep 103 = .ok (.iload 5, 2) := by decide +kernel
theorem dX1_keep_105 : decode cX1_keep 105 = .ok (.iconst 1, 1) := by decide +kernel
theorem dX1_keep_106 : decode cX1_keep 106 = .ok (.isub, 1) := by decide +kernel
theorem dX1_keep_107 : decode cX1_keep 107 = .ok (.iaload, 1) := by decide +kernel
theorem dX1_keep_108 : decode cX1_keep 108 = .ok (.iastore, 1) := by decide +kernel
theorem dX1_keep_109 : decode cX1_keep 109 = .ok (.aload_n 0, 1) := by decide +kernel
theorem dX1_keep_110 : decode cX1_keep 110 = .ok (.getfield 39, 3) := by decide +kernel
theorem dX1_keep_113 : decode cX1_keep 113 = .ok (.iload 5, 2) := by decide +kernel
theorem dX1_keep_115 : decode cX1_keep 115 = .ok (.aload_n 0, 1) := by decide +kernel
theorem dX1_keep_116 : decode cX1_keep 116 = .ok (.getfield 39, 3) := by decide +kernel
theorem dX1_keep_119 : decode cX1_keep 119 = .ok (.iload 5, 2) := by decide +kernel
theorem dX1_keep_121 : decode cX1_keep 121 = .ok (.iconst 1, 1) := by decide +kernel
theorem dX1_keep_122 : decode cX1_keep 122 = .ok (.isub, 1) := by decide +kernel
theorem dX1_keep_123 : decode cX1_keep 123 = .ok (.iaload, 1) := by decide +kernel
theorem dX1_keep_124 : decode cX1_keep 124 = .ok (.iastore, 1) := by decide +kernel
theorem dX1_keep_125 : decode cX1_keep 125 = .ok (.iinc 5 (-1), 3) := by decide +kernel
theorem dX1_keep_128 : decode cX1_keep 128 = .ok (.goto (-85), 3) := by decide +kernel
theorem dX1_keep_10 : decode cX1_keep 10 = .ok (.iload_n 3, 1) := by decide +kernel
theorem dX1_keep_11 : decode cX1_keep 11 = .ok (.aload_n 0, 1) := by decide +kernel
theorem dX1_keep_12 : decode cX1_keep 12 = .ok (.getfield 36, 3) := by decide +kernel
theorem dX1_keep_15 : decode cX1_keep 15 = .ok (.sipush 199, 3) := by decide +kernel
theorem dX1_keep_18 : decode cX1_keep 18 = .ok (.iaload, 1) := by decide +kernel
theorem dX1_keep_19 : decode cX1_keep 19 = .ok (.if_icmp .lt 4, 3) := by decide +kernel
theorem dX1_keep_22 : decode cX1_keep 22 = .ok (.return_, 1) := by decide +kernel
theorem dX1_tryWhole_0 : decode cX1_tryWhole 0 = .ok (.aload_n 0, 1) := by decide +kernel
theorem dX1_tryWhole_1 : decode cX1_tryWhole 1 = .ok (.getfield 62, 3) := by decide +kernel
theorem dX1_tryWhole_4 : decode cX1_tryWhole 4 = .ok (.aload_n 0, 1) := by decide +kernel
theorem dX1_tryWhole_5 : decode cX1_tryWhole 5 = .ok (.getfield 59, 3) := by decide +kernel
set_option maxRecDepth 20000 in
theorem ggX1_tryWhole_X8_takeAll : GoodIn wsX1_tryWhole wsX8_takeAll := goodIn_r _ [14, 15, 16, 17, 18, 152, 153, 154, 155, 156, 157] rfl (by decide +kernel)
set_option maxRecDepth 20000 in
theorem gX1_tryWhole_X8_takeAll : GoodIn wsX1_tryWhole (wsV RX1 120 RX8 yX8_takeAll wsX8_takeAll) := goodIn_app (goodIn_r _ [10, 11, 12, 13] rfl (by decide +kernel)) ggX1_tryWhole_X8_takeAll
theorem dX1_tryWhole_8 : decode cX1_tryWhole 8 = .ok (.invokevirtual 120, 3) := by decide +kernel
theorem dX1_tryWhole_11 : decode cX1_tryWhole 11 = .ok (.iconst 0, 1) := by decide +kernel
theorem dX1_tryWhole_12 : decode cX1_tryWhole 12 = .ok (.istore_n 3, 1) := by decide +kernel
theorem dX1_tryWhole_13 : decode cX1_tryWhole 13 = .ok (.iload_n 3, 1) := by decide +kernel
theorem dX1_tryWhole_14 : decode cX1_tryWhole 14 = .ok (.sipush 800, 3) := by decide +kernel
theorem dX1_tryWhole_17 : decode cX1_tryWhole 17 = .ok (.if_icmp .ge 49, 3) := by decide +kernel
theorem dX1_tryWhole_66 : decode cX1_tryWhole 66 = .ok (.aload_n 0, 1) := by decide +kernel
theorem dX1_tryWhole_67 : decode cX1_tryWhole 67 = .ok (.getfield 62, 3) := by decide +kernel
set_option maxRecDepth 20000 in
theorem ggX1_tryWhole_X8_reached : GoodIn wsX1_tryWhole wsX8_reached := goodIn_r _ [22, 15, 152, 153, 154, 155, 156, 157] rfl (by decide +kernel)
set_option maxRecDepth 20000 in
theorem gX1_tryWhole_X8_reached : GoodIn wsX1_tryWhole (wsV RX1 162 RX8 yX8_reached wsX8_reached) := goodIn_app (goodIn_r _ [19, 20, 21, 13] rfl (by decide +kernel)) ggX1_tryWhole_X8_reached
theorem dX1_tryWhole_70 : decode cX1_tryWhole 70 = .ok (.invokevirtual 162, 3) := by decide +kernel
theorem dX1_tryWhole_73 : decode cX1_tryWhole 73 = .ok (.istore_n 3, 1) := by decide +kernel
theorem dX1_tryWhole_74 : decode cX1_tryWhole 74 = .ok (.iload_n 3, 1) := by decide +kernel
theorem dX1_tryWhole_75 : decode cX1_tryWhole 75 = .ok (.aload_n 0, 1) := by decide +kernel
theorem dX1_tryWhole_76 : decode cX1_tryWhole 76 = .ok (.getfield 85, 3) := by decide +kernel
theorem dX1_tryWhole_79 : decode cX1_tryWhole 79 = .ok (.if_icmp .le 20, 3) := by decide +kernel
theorem dX1_tryWhole_99 : decode cX1_tryWhole 99 = .ok (.return_, 1) := by decide +kernel
theorem dX1_tryWhole_82 : decode cX1_tryWhole 82 = .ok (.iload_n 3, 1) := by decide +kernel
theorem dX1_tryWhole_83 : decode cX1_tryWhole 83 = .ok (.sipush 800, 3) := by decide +kernel
theorem dX1_tryWhole_86 : decode cX1_tryWhole 86 = .ok (.if_icmp .gt 13, 3) := by decide +kernel
theorem dX1_tryWhole_89 : decode cX1_tryWhole 89 = .ok (.aload_n 0, 1) := by decide +kernel
theorem dX1_tryWhole_90 : decode cX1_tryWhole 90 = .ok (.getfield 27, 3) := by decide +kernel
theorem dX1_tryWhole_93 : decode cX1_tryWhole 93 = .ok (.iload_n 3, 1) := by decide +kernel
theorem dX1_tryWhole_94 : decode cX1_tryWhole 94 = .ok (.iaload, 1) := by decide +kernel
theorem dX1_tryWhole_95 : decode cX1_tryWhole 95 = .ok (.iconst (-1), 1) := by decide +kernel
theorem dX1_tryWhole_96 : decode cX1_tryWhole 96 = .ok (.if_icmp .ne 4, 3) := by decide +kernel
theorem dX1_tryWhole_100 : decode cX1_tryWhole 100 = .ok (.aload_n 0, 1) := by decide +kernel
theorem dX1_tryWhole_101 : decode cX1_tryWhole 101 = .ok (.getfield 62, 3) := by decide +kernel
set_option maxRecDepth 20000 in
theorem ggX1_tryWhole_X8_letters : GoodIn wsX1_tryWhole wsX8_letters := goodIn_r _ [114, 18, 152, 153, 154, 155, 156, 157] rfl (by decide +kernel)
set_option maxRecDepth 20000 in
theorem gX1_tryWhole_X8_letters : GoodIn wsX1_tryWhole (wsV RX1 169 RX8 yX8_letters wsX8_letters) := goodIn_app (goodIn_r _ [111, 112, 113, 13] rfl (by decide +kernel)) ggX1_tryWhole_X8_letters
theorem dX1_tryWhole_104 : decode cX1_tryWhole 104 = .ok (.invokevirtual 169, 3) := by decide +kernel
theorem dX1_tryWhole_107 : decode cX1_tryWhole 107 = .ok (.aload_n 0, 1) := by decide +kernel
theorem dX1_tryWhole_108 : decode cX1_tryWhole 108 = .ok (.getfield 27, 3) := by decide +kernel
theorem dX1_tryWhole_111 : decode cX1_tryWhole 111 = .ok (.iload_n 3, 1) := by decide +kernel
theorem dX1_tryWhole_112 : decode cX1_tryWhole 112 = .ok (.iaload, 1) := by decide +kernel
theorem dX1_tryWhole_113 : decode cX1_tryWhole 113 = .ok (.iadd, 1) := by decide +kernel
theorem dX1_tryWhole_114 : decode cX1_tryWhole 114 = .ok (.istore 4, 2) := by decide +kernel
theorem dX1_tryWhole_116 : decode cX1_tryWhole 116 = .ok (.iload 4, 2) := by decide +kernel
theorem dX1_tryWhole_118 : decode cX1_tryWhole 118 = .ok (.sipush 300, 3) := by decide +kernel
theorem dX1_tryWhole_121 : decode cX1_tryWhole 121 = .ok (.if_icmp .gt 41, 3) := by decide +kernel
theorem dX1_tryWhole_162 : decode cX1_tryWhole 162 = .ok (.return_, 1) := by decide +kernel
theorem dX1_tryWhole_124 : decode cX1_tryWhole 124 = .ok (.aload_n 0, 1) := by decide +kernel
theorem dX1_tryWhole_125 : decode cX1_tryWhole 125 = .ok (.dup, 1) := by decide +kernel
theorem dX1_tryWhole_126 : decode cX1_tryWhole 126 = .ok (.getfield 69, 3) := by decide +kernel
theorem dX1_tryWhole_129 : decode cX1_tryWhole 129 = .ok (.iconst 1, 1) := by decide +kernel
theorem dX1_tryWhole_130 : decode cX1_tryWhole 130 = .ok (.iadd, 1) := by decide +kernel
theorem dX1_tryWhole_131 : decode cX1_tryWhole 131 = .ok (.putfield 69, 3) := by decide +kernel
theorem dX1_tryWhole_134 : decode cX1_tryWhole 134 = .ok (.aload_n 0, 1) := by decide +kernel
theorem dX1_tryWhole_135 : decode cX1_tryWhole 135 = .ok (.iload_n 1, 1) := by decide +kernel
theorem dX1_tryWhole_136 : decode cX1_tryWhole 136 = .ok (.iload_n 2, 1) := by decide +kernel
theorem dX1_tryWhole_137 : decode cX1_tryWhole 137 = .ok (.aload_n 0, 1) := by decide +kernel
theorem dX1_tryWhole_138 : decode cX1_tryWhole 138 = .ok (.getfield 62, 3) := by decide +kernel
theorem dX1_tryWhole_141 : decode cX1_tryWhole 141 = .ok (.aload_n 0, 1) := by decide +kernel
theorem dX1_tryWhole_142 : decode cX1_tryWhole 142 = .ok (.getfield 20, 3) := by decide +kernel
theorem dX1_tryWhole_145 : decode cX1_tryWhole 145 = .ok (.iload_n 3, 1) := by decide +kernel
theorem dX1_tryWhole_146 : decode cX1_tryWhole 146 = .ok (.iaload, 1) := by decide +kernel
set_option maxRecDepth 20000 in
theorem ggX1_tryWhole_X8_sumWith : GoodIn wsX1_tryWhole wsX8_sumWith := goodIn_r _ [118, 17, 34, 16, 86, 87, 88, 89, 90, 91, 92, 93, 94, 95, 96, 97, 98, 99, 100, 101, 102, 103, 104, 105, 106, 107, 152, 153, 154, 155, 156, 157, 166, 167, 168] rfl (by decide +kernel)
set_option maxRecDepth 20000 in
theorem gX1_tryWhole_X8_sumWith : GoodIn wsX1_tryWhole (wsV RX1 172 RX8 yX8_sumWith wsX8_sumWith) := goodIn_app (goodIn_r _ [115, 116, 117, 13] rfl (by decide +kernel)) ggX1_tryWhole_X8_sumWith
theorem dX1_tryWhole_147 : decode cX1_tryWhole 147 = .ok (.invokevirtual 172, 3) := by decide +kernel
theorem dX1_tryWhole_150 : decode cX1_tryWhole 150 = .ok (.aload_n 0, 1) := by decide +kernel
theorem dX1_tryWhole_151 : decode cX1_tryWhole 151 = .ok (.getfield 24, 3) := by decide +kernel
theorem dX1_tryWhole_154 : decode cX1_tryWhole 154 = .ok (.iload_n 3, 1) := by decide +kernel
theorem dX1_tryWhole_155 : decode cX1_tryWhole 155 = .ok (.iaload, 1) := by decide +kernel
theorem dX1_tryWhole_156 : decode cX1_tryWhole 156 = .ok (.iadd, 1) := by decide +kernel
theorem dX1_tryWhole_157 : decode cX1_tryWhole 157 = .ok (.iload 4, 2) := by decide +kernel
set_option maxRecDepth 20000 in
theorem ggX1_tryWhole_X1_keep : GoodIn wsX1_tryWhole wsX1_keep := goodIn_r _ [123, 124, 125, 126, 127, 37, 128, 129, 130, 131, 132, 133, 134, 135, 136, 137, 138, 139, 140, 141, 142, 143, 144, 145, 146, 147, 148, 149, 150, 151] rfl (by decide +kernel)
set_option maxRecDepth 20000 in
theorem gX1_tryWhole_X1_keep : GoodIn wsX1_tryWhole (wsV RX1 175 RX1 yX1_keep wsX1_keep) := goodIn_app (goodIn_r _ [119, 120, 121, 122] rfl (by decide +kernel)) ggX1_tryWhole_X1_keep
theorem dX1_tryWhole_159 : decode cX1_tryWhole 159 = .ok (.invokevirtual 175, 3) := by decide +kernel
theorem dX1_tryWhole_20 : decode cX1_tryWhole 20 = .ok (.aload_n 0, 1) := by decide +kernel
theorem dX1_tryWhole_21 : decode cX1_tryWhole 21 = .ok (.getfield 62, 3) := by decide +kernel
theorem dX1_tryWhole_24 : decode cX1_tryWhole 24 = .ok (.invokevirtual 162, 3) := by decide +kernel
theorem dX1_tryWhole_27 : decode cX1_tryWhole 27 = .ok (.aload_n 0, 1) := by decide +kernel
theorem dX1_tryWhole_28 : decode cX1_tryWhole 28 = .ok (.getfield 85, 3) := by decide +kernel
theorem dX1_tryWhole_31 : decode cX1_tryWhole 31 = .ok (.if_icmp .gt 35, 3) := by decide +kernel
theorem dX1_tryWhole_34 : decode cX1_tryWhole 34 = .ok (.aload_n 0, 1) := by decide +kernel
theorem dX1_tryWhole_35 : decode cX1_tryWhole 35 = .ok (.getfield 62, 3) := by decide +kernel
theorem dX1_tryWhole_38 : decode cX1_tryWhole 38 = .ok (.aload_n 0, 1) := by decide +kernel
theorem dX1_tryWhole_39 : decode cX1_tryWhole 39 = .ok (.getfield 76, 3) := by decide +kernel
theorem dX1_tryWhole_42 : decode cX1_tryWhole 42 = .ok (.aload_n 0, 1) := by decide +kernel
theorem dX1_tryWhole_43 : decode cX1_tryWhole 43 = .ok (.getfield 16, 3) := by decide +kernel
theorem dX1_tryWhole_46 : decode cX1_tryWhole 46 = .ok (.aload_n 0, 1) := by decide +kernel
theorem dX1_tryWhole_47 : decode cX1_tryWhole 47 = .ok (.getfield 16, 3) := by decide +kernel
set_option maxRecDepth 20000 in
theorem ggX1_tryWhole_X5_length : GoodIn wsX1_tryWhole wsX5_length := goodIn_r _ [27, 28, 158, 159] rfl (by decide +kernel)
set_option maxRecDepth 20000 in
theorem gX1_tryWhole_X5_length : GoodIn wsX1_tryWhole (wsV RX1 91 RX5 yX5_length wsX5_length) := goodIn_app (goodIn_r _ [23, 24, 25, 26] rfl (by decide +kernel)) ggX1_tryWhole_X5_length
theorem dX1_tryWhole_50 : decode cX1_tryWhole 50 = .ok (.invokevirtual 91, 3) := by decide +kernel
set_option maxRecDepth 20000 in
theorem ggX1_tryWhole_X8_step : GoodIn wsX1_tryWhole wsX8_step := goodIn_r _ [32, 33, 15, 17, 34, 16, 18, 35, 36, 37, 38, 39, 40, 41, 42, 43, 44, 45, 46, 26, 47, 28, 48, 49, 50, 51, 52, 53, 54, 55, 56, 57, 58, 59, 60, 61, 62, 63, 64, 65, 66, 67, 68, 69, 70, 71, 72, 73, 74, 75, 76, 77, 78, 79, 80, 81, 82, 83, 84, 85, 86, 87, 88, 89, 90, 91, 92, 93, 94, 95, 96, 97, 98, 99, 100, 101, 102, 103, 104, 105, 106, 107, 108, 109, 110, 152, 153, 154, 155, 156, 157, 158, 159, 160, 161, 162, 163, 164, 165, 166, 167, 168] rfl (by decide +kernel)
set_option maxRecDepth 20000 in
theorem gX1_tryWhole_X8_step : GoodIn wsX1_tryWhole (wsV RX1 165 RX8 yX8_step wsX8_step) := goodIn_app (goodIn_r _ [29, 30, 31, 13] rfl (by decide +kernel)) ggX1_tryWhole_X8_step
theorem dX1_tryWhole_53 : decode cX1_tryWhole 53 = .ok (.invokevirtual 165, 3) := by decide +kernel
theorem dX1_tryWhole_56 : decode cX1_tryWhole 56 = .ok (.ifCond .ne 4, 3) := by decide +kernel
theorem dX1_tryWhole_60 : decode cX1_tryWhole 60 = .ok (.iinc 3 1, 3) := by decide +kernel
theorem dX1_tryWhole_63 : decode cX1_tryWhole 63 = .ok (.goto (-50), 3) := by decide +kernel
theorem dX1_tryWhole_59 : decode cX1_tryWhole 59 = .ok (.return_, 1) := by decide +kernel
theorem dX1_tryLast_0 : decode cX1_tryLast 0 = .ok (.iconst 0, 1) := by decide +kernel
theorem dX1_tryLast_1 : decode cX1_tryLast 1 = .ok (.istore_n 2, 1) := by decide +kernel
theorem dX1_tryLast_2 : decode cX1_tryLast 2 = .ok (.iload_n 2, 1) := by decide +kernel
theorem dX1_tryLast_3 : decode cX1_tryLast 3 = .ok (.sipush 256, 3) := by decide +kernel
theorem dX1_tryLast_6 : decode cX1_tryLast 6 = .ok (.if_icmp .ge 50, 3) := by decide +kernel
theorem dX1_tryLast_56 : decode cX1_tryLast 56 = .ok (.return_, 1) := by decide +kernel
theorem dX1_tryLast_9 : decode cX1_tryLast 9 = .ok (.aload_n 0, 1) := by decide +kernel
theorem dX1_tryLast_10 : decode cX1_tryLast 10 = .ok (.getfield 42, 3) := by decide +kernel
theorem dX1_tryLast_13 : decode cX1_tryLast 13 = .ok (.aload_n 0, 1) := by decide +kernel
theorem dX1_tryLast_14 : decode cX1_tryLast 14 = .ok (.getfield 79, 3) := by decide +kernel
theorem dX1_tryLast_17 : decode cX1_tryLast 17 = .ok (.iload_n 2, 1) := by decide +kernel
set_option maxRecDepth 20000 in
theorem ggX1_tryLast_X2_letterAlone : GoodIn wsX1_tryLast wsX2_letterAlone := goodIn_r _ [9, 10, 11, 12, 8, 13, 14, 15, 16, 17, 18, 19, 20, 21, 169, 170, 171, 172, 173, 174] rfl (by decide +kernel)
set_option maxRecDepth 20000 in
theorem gX1_tryLast_X2_letterAlone : GoodIn wsX1_tryLast (wsV RX1 127 RX2 yX2_letterAlone wsX2_letterAlone) := goodIn_app (goodIn_r _ [5, 6, 7, 8] rfl (by decide +kernel)) ggX1_tryLast_X2_letterAlone
theorem dX1_tryLast_18 : decode cX1_tryLast 18 = .ok (.invokevirtual 127, 3) := by decide +kernel
theorem dX1_tryLast_21 : decode cX1_tryLast 21 = .ok (.iconst (-1), 1) := by decide +kernel
theorem dX1_tryLast_22 : decode cX1_tryLast 22 = .ok (.if_icmp .ne 28, 3) := by decide +kernel
theorem dX1_tryLast_50 : decode cX1_tryLast 50 = .ok (.iinc 2 1, 3) := by decide +kernel
theorem dX1_tryLast_53 : decode cX1_tryLast 53 = .ok (.goto (-51), 3) := by decide +kernel
theorem dX1_tryLast_25 : decode cX1_tryLast 25 = .ok (.aload_n 0, 1) := by decide +kernel
theorem dX1_tryLast_26 : decode cX1_tryLast 26 = .ok (.getfield 16, 3) := by decide +kernel
theorem dX1_tryLast_29 : decode cX1_tryLast 29 = .ok (.aload_n 0, 1) := by decide +kernel
theorem dX1_tryLast_30 : decode cX1_tryLast 30 = .ok (.getfield 85, 3) := by decide +kernel
theorem dX1_tryLast_33 : decode cX1_tryLast 33 = .ok (.iload_n 2, 1) := by decide +kernel
set_option maxRecDepth 20000 in
theorem ggX1_tryLast_X5_set : GoodIn wsX1_tryLast wsX5_set := goodIn_r _ [26, 27, 28, 175, 176] rfl (by decide +kernel)
set_option maxRecDepth 20000 in
theorem gX1_tryLast_X5_set : GoodIn wsX1_tryLast (wsV RX1 131 RX5 yX5_set wsX5_set) := goodIn_app (goodIn_r _ [22, 23, 24, 25] rfl (by decide +kernel)) ggX1_tryLast_X5_set
theorem dX1_tryLast_34 : decode cX1_tryLast 34 = .ok (.invokevirtual 131, 3) := by decide +kernel
theorem dX1_tryLast_37 : decode cX1_tryLast 37 = .ok (.aload_n 0, 1) := by decide +kernel
set_option maxRecDepth 20000 in
theorem ggX1_tryLast_X1_comesBack : GoodIn wsX1_tryLast wsX1_comesBack := goodIn_r _ [33, 3, 1, 2, 4, 34, 35, 36, 37, 25, 38, 27, 39, 40, 41, 8, 42, 43, 44, 45, 46, 28, 47, 6, 7, 9, 10, 11, 12, 13, 14, 15, 16, 17, 18, 19, 20, 21, 48, 49, 50, 51, 52, 53, 54, 55, 56, 57, 58, 59, 60, 61, 62, 63, 64, 65, 149, 150, 151, 152, 153, 154, 155, 156, 157, 158, 159, 160, 161, 162, 163, 164, 165, 166, 167, 168, 175, 176, 169, 170, 171, 172, 173, 174] rfl (by decide +kernel)
set_option maxRecDepth 20000 in
theorem gX1_tryLast_X1_comesBack : GoodIn wsX1_tryLast (wsV RX1 155 RX1 yX1_comesBack wsX1_comesBack) := goodIn_app (goodIn_r _ [29, 30, 31, 32] rfl (by decide +kernel)) ggX1_tryLast_X1_comesBack
theorem dX1_tryLast_38 : decode cX1_tryLast 38 = .ok (.invokevirtual 155, 3) := by decide +kernel
theorem dX1_tryLast_41 : decode cX1_tryLast 41 = .ok (.ifCond .eq 9, 3) := by decide +kernel
theorem dX1_tryLast_44 : decode cX1_tryLast 44 = .ok (.aload_n 0, 1) := by decide +kernel
theorem dX1_tryLast_45 : decode cX1_tryLast 45 = .ok (.iload_n 1, 1) := by decide +kernel
theorem dX1_tryLast_46 : decode cX1_tryLast 46 = .ok (.iload_n 2, 1) := by decide +kernel
set_option maxRecDepth 20000 in
theorem ggX1_tryLast_X1_tryWhole : GoodIn wsX1_tryLast wsX1_tryWhole := goodIn_r _ [69, 70, 71, 4, 72, 3, 73, 74, 75, 76, 77, 78, 79, 80, 81, 82, 83, 84, 85, 86, 87, 88, 89, 35, 36, 37, 25, 38, 27, 90, 91, 92, 93, 94, 95, 96, 97, 98, 99, 100, 40, 41, 8, 42, 43, 44, 45, 46, 28, 47, 6, 7, 9, 10, 11, 12, 13, 14, 15, 16, 17, 18, 19, 20, 21, 48, 49, 50, 51, 52, 53, 54, 55, 56, 57, 58, 59, 60, 61, 62, 63, 64, 65, 101, 102, 103, 104, 105, 106, 107, 108, 109, 110, 111, 112, 113, 114, 115, 116, 117, 118, 119, 120, 121, 122, 123, 124, 125, 126, 127, 128, 129, 130, 131, 132, 133, 134, 135, 136, 137, 138, 139, 32, 140, 141, 142, 143, 144, 145, 146, 147, 148, 149, 150, 151, 152, 153, 154, 155, 156, 157, 158, 159, 160, 161, 162, 163, 164, 165, 166, 167, 168, 177, 178, 179, 180, 181, 182, 175, 176, 169, 170, 171, 172, 173, 174, 183, 184, 185] rfl (by decide +kernel)
set_option maxRecDepth 20000 in
theorem gX1_tryLast_X1_tryWhole : GoodIn wsX1_tryLast (wsV RX1 159 RX1 yX1_tryWhole wsX1_tryWhole) := goodIn_app (goodIn_r _ [66, 67, 68, 32] rfl (by decide +kernel)) ggX1_tryLast_X1_tryWhole
theorem dX1_tryLast_47 : decode cX1_tryLast 47 = .ok (.invokevirtual 159, 3) := by decide +kernel
theorem dX1_find_0 : decode cX1_find 0 = .ok (.aload_n 0, 1) := by decide +kernel
theorem dX1_find_1 : decode cX1_find 1 = .ok (.iload_n 1, 1) := by decide +kernel
theorem dX1_find_2 : decode cX1_find 2 = .ok (.putfield 76, 3) := by decide +kernel
theorem dX1_find_5 : decode cX1_find 5 = .ok (.aload_n 0, 1) := by decide +kernel
theorem dX1_find_6 : decode cX1_find 6 = .ok (.iload_n 2, 1) := by decide +kernel
theorem dX1_find_7 : decode cX1_find 7 = .ok (.putfield 79, 3) := by decide +kernel
theorem dX1_find_10 : decode cX1_find 10 = .ok (.aload_n 0, 1) := by decide +kernel
theorem dX1_find_11 : decode cX1_find 11 = .ok (.iconst 0, 1) := by decide +kernel
theorem dX1_find_12 : decode cX1_find 12 = .ok (.putfield 65, 3) := by decide +kernel
theorem dX1_find_15 : decode cX1_find 15 = .ok (.aload_n 0, 1) := by decide +kernel
theorem dX1_find_16 : decode cX1_find 16 = .ok (.iconst 0, 1) := by decide +kernel
theorem dX1_find_17 : decode cX1_find 17 = .ok (.putfield 69, 3) := by decide +kernel
theorem dX1_find_20 : decode cX1_find 20 = .ok (.aload_n 0, 1) := by decide +kernel
set_option maxRecDepth 20000 in
theorem ggX1_find_X1_findTails : GoodIn wsX1_find wsX1_findTails := goodIn_r _ [16, 7, 17, 18, 19, 20, 21, 22, 23, 8, 10, 1, 24, 25, 26, 27, 28, 29, 30, 31, 32, 33, 34, 35, 36, 37, 38, 39, 40, 41, 42, 43, 44, 45, 46, 47, 48, 49, 50, 51, 52, 53, 54, 55, 56, 57, 58, 59, 60, 61, 62, 63, 64, 65, 66, 67, 68, 69, 70, 71, 72, 73, 74, 75, 76, 77, 78, 79, 80, 81, 82, 83, 84, 85, 86, 87, 88, 89, 90, 91, 92, 93, 94, 95, 96, 97, 98, 99, 100, 101, 102, 172, 173, 174, 175, 176, 177, 178, 179, 180, 181, 182, 183, 184, 185, 186, 187, 188, 189, 190, 191, 192, 193, 194, 195, 196, 197, 198, 199, 200, 201, 202] rfl (by decide +kernel)
set_option maxRecDepth 20000 in
theorem gX1_find_X1_findTails : GoodIn wsX1_find (wsV RX1 110 RX1 yX1_findTails wsX1_findTails) := goodIn_app (goodIn_r _ [12, 13, 14, 15] rfl (by decide +kernel)) ggX1_find_X1_findTails
theorem dX1_find_21 : decode cX1_find 21 = .ok (.invokevirtual 110, 3) := by decide +kernel
theorem dX1_find_24 : decode cX1_find 24 = .ok (.aload_n 0, 1) := by decide +kernel
theorem dX1_find_25 : decode cX1_find 25 = .ok (.getfield 55, 3) := by decide +kernel
set_option maxRecDepth 20000 in
theorem ggX1_find_X8_begin : GoodIn wsX1_find wsX8_begin := goodIn_r _ [107, 108, 109, 110, 111, 203, 204, 205, 206, 207, 208] rfl (by decide +kernel)
set_option maxRecDepth 20000 in
theorem gX1_find_X8_begin : GoodIn wsX1_find (wsV RX1 113 RX8 yX8_begin wsX8_begin) := goodIn_app (goodIn_r _ [103, 104, 105, 106] rfl (by decide +kernel)) ggX1_find_X8_begin
theorem dX1_find_28 : decode cX1_find 28 = .ok (.invokevirtual 113, 3) := by decide +kernel
theorem dX1_find_31 : decode cX1_find 31 = .ok (.aload_n 0, 1) := by decide +kernel
theorem dX1_find_32 : decode cX1_find 32 = .ok (.getfield 82, 3) := by decide +kernel
theorem dX1_find_35 : decode cX1_find 35 = .ok (.iconst (-1), 1) := by decide +kernel
theorem dX1_find_36 : decode cX1_find 36 = .ok (.if_icmp .ne 38, 3) := by decide +kernel
theorem dX1_find_74 : decode cX1_find 74 = .ok (.aload_n 0, 1) := by decide +kernel
theorem dX1_find_75 : decode cX1_find 75 = .ok (.getfield 55, 3) := by decide +kernel
theorem dX1_find_78 : decode cX1_find 78 = .ok (.iload_n 1, 1) := by decide +kernel
theorem dX1_find_79 : decode cX1_find 79 = .ok (.aload_n 0, 1) := by decide +kernel
theorem dX1_find_80 : decode cX1_find 80 = .ok (.getfield 16, 3) := by decide +kernel
theorem dX1_find_83 : decode cX1_find 83 = .ok (.aload_n 0, 1) := by decide +kernel
theorem dX1_find_84 : decode cX1_find 84 = .ok (.getfield 82, 3) := by decide +kernel
set_option maxRecDepth 20000 in
theorem ggX1_find_X8_goOn : GoodIn wsX1_find wsX8_goOn := goodIn_r _ [115, 108, 116, 117, 118, 106, 119, 120, 110, 121, 109, 111, 122, 123, 19, 124, 125, 32, 33, 34, 35, 36, 37, 38, 28, 39, 30, 40, 41, 42, 43, 44, 45, 46, 47, 48, 49, 50, 51, 52, 53, 54, 55, 56, 57, 58, 59, 60, 61, 62, 63, 64, 65, 66, 67, 68, 69, 70, 71, 72, 73, 74, 126, 79, 80, 127, 82, 83, 84, 85, 86, 87, 88, 89, 90, 91, 92, 93, 94, 95, 96, 97, 98, 99, 100, 101, 102, 128, 76, 77, 203, 204, 205, 206, 207, 208, 192, 193, 194, 195, 196, 197, 198, 199, 200, 201, 202] rfl (by decide +kernel)
set_option maxRecDepth 20000 in
theorem gX1_find_X8_goOn : GoodIn wsX1_find (wsV RX1 116 RX8 yX8_goOn wsX8_goOn) := goodIn_app (goodIn_r _ [112, 113, 114, 106] rfl (by decide +kernel)) ggX1_find_X8_goOn
theorem dX1_find_87 : decode cX1_find 87 = .ok (.invokevirtual 116, 3) := by decide +kernel
theorem dX1_find_90 : decode cX1_find 90 = .ok (.iconst 0, 1) := by decide +kernel
theorem dX1_find_91 : decode cX1_find 91 = .ok (.istore_n 3, 1) := by decide +kernel
theorem dX1_find_92 : decode cX1_find 92 = .ok (.iload_n 3, 1) := by decide +kernel
theorem dX1_find_93 : decode cX1_find 93 = .ok (.sipush 256, 3) := by decide +kernel
theorem dX1_find_96 : decode cX1_find 96 = .ok (.if_icmp .ge 66, 3) := by decide +kernel
theorem dX1_find_162 : decode cX1_find 162 = .ok (.aload_n 0, 1) := by decide +kernel
theorem dX1_find_163 : decode cX1_find 163 = .ok (.iconst 1, 1) := by decide +kernel
theorem dX1_find_164 : decode cX1_find 164 = .ok (.putfield 72, 3) := by decide +kernel
theorem dX1_find_167 : decode cX1_find 167 = .ok (.aload_n 0, 1) := by decide +kernel
theorem dX1_find_168 : decode cX1_find 168 = .ok (.getfield 69, 3) := by decide +kernel
theorem dX1_find_171 : decode cX1_find 171 = .ok (.ireturn, 1) := by decide +kernel
theorem dX1_find_99 : decode cX1_find 99 = .ok (.aload_n 0, 1) := by decide +kernel
theorem dX1_find_100 : decode cX1_find 100 = .ok (.getfield 42, 3) := by decide +kernel
theorem dX1_find_103 : decode cX1_find 103 = .ok (.iload_n 2, 1) := by decide +kernel
theorem dX1_find_104 : decode cX1_find 104 = .ok (.iload_n 3, 1) := by decide +kernel
set_option maxRecDepth 20000 in
theorem ggX1_find_X2_letterAlone : GoodIn wsX1_find wsX2_letterAlone := goodIn_r _ [44, 45, 46, 47, 34, 48, 49, 50, 51, 52, 53, 54, 55, 56, 194, 195, 196, 197, 198, 199] rfl (by decide +kernel)
set_option maxRecDepth 20000 in
theorem gX1_find_X2_letterAlone : GoodIn wsX1_find (wsV RX1 127 RX2 yX2_letterAlone wsX2_letterAlone) := goodIn_app (goodIn_r _ [137, 42, 43, 34] rfl (by decide +kernel)) ggX1_find_X2_letterAlone
theorem dX1_find_105 : decode cX1_find 105 = .ok (.invokevirtual 127, 3) := by decide +kernel
theorem dX1_find_108 : decode cX1_find 108 = .ok (.iconst (-1), 1) := by decide +kernel
theorem dX1_find_109 : decode cX1_find 109 = .ok (.if_icmp .ne 47, 3) := by decide +kernel
theorem dX1_find_156 : decode cX1_find 156 = .ok (.iinc 3 1, 3) := by decide +kernel
theorem dX1_find_159 : decode cX1_find 159 = .ok (.goto (-67), 3) := by decide +kernel
theorem dX1_find_112 : decode cX1_find 112 = .ok (.aload_n 0, 1) := by decide +kernel
theorem dX1_find_113 : decode cX1_find 113 = .ok (.getfield 16, 3) := by decide +kernel
theorem dX1_find_116 : decode cX1_find 116 = .ok (.aload_n 0, 1) := by decide +kernel
theorem dX1_find_117 : decode cX1_find 117 = .ok (.getfield 82, 3) := by decide +kernel
theorem dX1_find_120 : decode cX1_find 120 = .ok (.iload_n 3, 1) := by decide +kernel
set_option maxRecDepth 20000 in
theorem ggX1_find_X5_set : GoodIn wsX1_find wsX5_set := goodIn_r _ [141, 30, 40, 192, 193] rfl (by decide +kernel)
set_option maxRecDepth 20000 in
theorem gX1_find_X5_set : GoodIn wsX1_find (wsV RX1 131 RX5 yX5_set wsX5_set) := goodIn_app (goodIn_r _ [138, 139, 140, 28] rfl (by decide +kernel)) ggX1_find_X5_set
theorem dX1_find_121 : decode cX1_find 121 = .ok (.invokevirtual 131, 3) := by decide +kernel
theorem dX1_find_124 : decode cX1_find 124 = .ok (.aload_n 0, 1) := by decide +kernel
theorem dX1_find_125 : decode cX1_find 125 = .ok (.getfield 59, 3) := by decide +kernel
theorem dX1_find_128 : decode cX1_find 128 = .ok (.aload_n 0, 1) := by decide +kernel
theorem dX1_find_129 : decode cX1_find 129 = .ok (.getfield 55, 3) := by decide +kernel
set_option maxRecDepth 20000 in
theorem ggX1_find_X8_takeAll : GoodIn wsX1_find wsX8_takeAll := goodIn_r _ [132, 108, 109, 110, 111, 203, 204, 205, 206, 207, 208] rfl (by decide +kernel)
set_option maxRecDepth 20000 in
theorem gX1_find_X8_takeAll : GoodIn wsX1_find (wsV RX1 120 RX8 yX8_takeAll wsX8_takeAll) := goodIn_app (goodIn_r _ [129, 130, 131, 106] rfl (by decide +kernel)) ggX1_find_X8_takeAll
theorem dX1_find_132 : decode cX1_find 132 = .ok (.invokevirtual 120, 3) := by decide +kernel
theorem dX1_find_135 : decode cX1_find 135 = .ok (.aload_n 0, 1) := by decide +kernel
theorem dX1_find_136 : decode cX1_find 136 = .ok (.getfield 59, 3) := by decide +kernel
theorem dX1_find_139 : decode cX1_find 139 = .ok (.iload_n 1, 1) := by decide +kernel
theorem dX1_find_140 : decode cX1_find 140 = .ok (.aload_n 0, 1) := by decide +kernel
theorem dX1_find_141 : decode cX1_find 141 = .ok (.getfield 16, 3) := by decide +kernel
theorem dX1_find_144 : decode cX1_find 144 = .ok (.aload_n 0, 1) := by decide +kernel
theorem dX1_find_145 : decode cX1_find 145 = .ok (.getfield 85, 3) := by decide +kernel
theorem dX1_find_148 : decode cX1_find 148 = .ok (.invokevirtual 116, 3) := by decide +kernel
theorem dX1_find_151 : decode cX1_find 151 = .ok (.aload_n 0, 1) := by decide +kernel
theorem dX1_find_152 : decode cX1_find 152 = .ok (.iload_n 3, 1) := by decide +kernel
set_option maxRecDepth 20000 in
theorem ggX1_find_X1_tryLast : GoodIn wsX1_find wsX1_tryLast := goodIn_r _ [136, 10, 2, 7, 8, 137, 42, 43, 34, 44, 45, 46, 47, 48, 49, 50, 51, 52, 53, 54, 55, 56, 138, 139, 140, 28, 141, 30, 40, 142, 143, 144, 15, 145, 6, 25, 26, 27, 29, 31, 32, 33, 35, 36, 37, 38, 39, 41, 57, 58, 59, 60, 61, 62, 63, 64, 65, 66, 67, 68, 69, 70, 71, 72, 73, 74, 146, 147, 148, 149, 150, 9, 1, 23, 4, 21, 22, 129, 130, 131, 106, 132, 108, 109, 110, 111, 151, 152, 153, 154, 155, 117, 118, 119, 120, 121, 122, 123, 19, 124, 125, 126, 79, 80, 127, 82, 83, 84, 85, 86, 87, 88, 89, 90, 91, 92, 93, 94, 95, 96, 97, 98, 99, 100, 101, 102, 128, 76, 77, 156, 157, 158, 159, 160, 161, 162, 163, 164, 165, 166, 167, 3, 168, 17, 18, 20, 169, 170, 171, 172, 173, 174, 175, 176, 177, 178, 179, 180, 181, 182, 183, 184, 185, 186, 187, 188, 189, 190, 191, 194, 195, 196, 197, 198, 199, 192, 193, 203, 204, 205, 206, 207, 208, 200, 201, 202] rfl (by decide +kernel)
set_option maxRecDepth 20000 in
theorem gX1_find_X1_tryLast : GoodIn wsX1_find (wsV RX1 124 RX1 yX1_tryLast wsX1_tryLast) := goodIn_app (goodIn_r _ [133, 134, 135, 15] rfl (by decide +kernel)) ggX1_find_X1_tryLast
theorem dX1_find_153 : decode cX1_find 153 = .ok (.invokevirtual 124, 3) := by decide +kernel
theorem dX1_find_39 : decode cX1_find 39 = .ok (.aload_n 0, 1) := by decide +kernel
theorem dX1_find_40 : decode cX1_find 40 = .ok (.getfield 55, 3) := by decide +kernel
theorem dX1_find_43 : decode cX1_find 43 = .ok (.iload_n 1, 1) := by decide +kernel
theorem dX1_find_44 : decode cX1_find 44 = .ok (.aload_n 0, 1) := by decide +kernel
theorem dX1_find_45 : decode cX1_find 45 = .ok (.getfield 16, 3) := by decide +kernel
theorem dX1_find_48 : decode cX1_find 48 = .ok (.aload_n 0, 1) := by decide +kernel
theorem dX1_find_49 : decode cX1_find 49 = .ok (.getfield 85, 3) := by decide +kernel
theorem dX1_find_52 : decode cX1_find 52 = .ok (.invokevirtual 116, 3) := by decide +kernel
theorem dX1_find_55 : decode cX1_find 55 = .ok (.aload_n 0, 1) := by decide +kernel
theorem dX1_find_56 : decode cX1_find 56 = .ok (.getfield 59, 3) := by decide +kernel
theorem dX1_find_59 : decode cX1_find 59 = .ok (.aload_n 0, 1) := by decide +kernel
theorem dX1_find_60 : decode cX1_find 60 = .ok (.getfield 55, 3) := by decide +kernel
theorem dX1_find_63 : decode cX1_find 63 = .ok (.invokevirtual 120, 3) := by decide +kernel
theorem dX1_find_66 : decode cX1_find 66 = .ok (.aload_n 0, 1) := by decide +kernel
theorem dX1_find_67 : decode cX1_find 67 = .ok (.iconst (-1), 1) := by decide +kernel
theorem dX1_find_68 : decode cX1_find 68 = .ok (.invokevirtual 124, 3) := by decide +kernel
theorem dX1_find_71 : decode cX1_find 71 = .ok (.goto 91, 3) := by decide +kernel
theorem dX1_build_0 : decode cX1_build 0 = .ok (.iload_n 1, 1) := by decide +kernel
theorem dX1_build_1 : decode cX1_build 1 = .ok (.ifCond .lt 24, 3) := by decide +kernel
theorem dX1_build_25 : decode cX1_build 25 = .ok (.iconst 0, 1) := by decide +kernel
theorem dX1_build_26 : decode cX1_build 26 = .ok (.ireturn, 1) := by decide +kernel
theorem dX1_build_4 : decode cX1_build 4 = .ok (.iload_n 1, 1) := by decide +kernel
theorem dX1_build_5 : decode cX1_build 5 = .ok (.aload_n 0, 1) := by decide +kernel
theorem dX1_build_6 : decode cX1_build 6 = .ok (.getfield 65, 3) := by decide +kernel
theorem dX1_build_9 : decode cX1_build 9 = .ok (.if_icmp .ge 16, 3) := by decide +kernel
theorem dX1_build_12 : decode cX1_build 12 = .ok (.aload_n 0, 1) := by decide +kernel
theorem dX1_build_13 : decode cX1_build 13 = .ok (.aload_n 0, 1) := by decide +kernel
theorem dX1_build_14 : decode cX1_build 14 = .ok (.getfield 79, 3) := by decide +kernel
theorem dX1_build_17 : decode cX1_build 17 = .ok (.aload_n 2, 1) := by decide +kernel
set_option maxRecDepth 20000 in
theorem ggX1_build_X1_layOut : GoodIn wsX1_build wsX1_layOut := goodIn_r _ [13, 3, 4, 5, 14, 15, 16, 17, 18, 19, 20, 21, 22, 23, 24, 25, 26, 27, 28, 29, 30, 31, 32, 33, 34, 35, 36, 37, 38, 39, 40, 41, 42, 43, 44, 45, 46, 47, 48, 49, 50, 51, 52, 53, 54, 55, 56, 57, 58, 59, 60, 61, 62, 63, 64, 65, 66, 67, 121, 122, 123, 124, 125, 126, 127, 128, 129, 130, 131, 132, 133, 134, 135, 136, 137, 138, 139, 140, 141, 142, 143, 144, 145, 146, 147, 148] rfl (by decide +kernel)
set_option maxRecDepth 20000 in
theorem gX1_build_X1_layOut : GoodIn wsX1_build (wsV RX1 179 RX1 yX1_layOut wsX1_layOut) := goodIn_app (goodIn_r _ [9, 10, 11, 12] rfl (by decide +kernel)) ggX1_build_X1_layOut
theorem dX1_build_18 : decode cX1_build 18 = .ok (.invokevirtual 179, 3) := by decide +kernel
theorem dX1_build_21 : decode cX1_build 21 = .ok (.iconst (-1), 1) := by decide +kernel
theorem dX1_build_22 : decode cX1_build 22 = .ok (.if_icmp .eq 5, 3) := by decide +kernel
theorem dX1_build_27 : decode cX1_build 27 = .ok (.aload_n 0, 1) := by decide +kernel
theorem dX1_build_28 : decode cX1_build 28 = .ok (.getfield 16, 3) := by decide +kernel
theorem dX1_build_31 : decode cX1_build 31 = .ok (.aload_n 0, 1) := by decide +kernel
theorem dX1_build_32 : decode cX1_build 32 = .ok (.getfield 82, 3) := by decide +kernel
theorem dX1_build_35 : decode cX1_build 35 = .ok (.iconst (-1), 1) := by decide +kernel
theorem dX1_build_36 : decode cX1_build 36 = .ok (.if_icmp .ne 10, 3) := by decide +kernel
theorem dX1_build_46 : decode cX1_build 46 = .ok (.aload_n 0, 1) := by decide +kernel
theorem dX1_build_47 : decode cX1_build 47 = .ok (.getfield 82, 3) := by decide +kernel
theorem dX1_build_50 : decode cX1_build 50 = .ok (.aload_n 0, 1) := by decide +kernel
theorem dX1_build_51 : decode cX1_build 51 = .ok (.getfield 30, 3) := by decide +kernel
theorem dX1_build_54 : decode cX1_build 54 = .ok (.iload_n 1, 1) := by decide +kernel
theorem dX1_build_55 : decode cX1_build 55 = .ok (.iaload, 1) := by decide +kernel
set_option maxRecDepth 20000 in
theorem ggX1_build_X5_set : GoodIn wsX1_build wsX5_set := goodIn_r _ [71, 21, 30, 141, 142] rfl (by decide +kernel)
set_option maxRecDepth 20000 in
theorem gX1_build_X5_set : GoodIn wsX1_build (wsV RX1 131 RX5 yX5_set wsX5_set) := goodIn_app (goodIn_r _ [68, 69, 70, 19] rfl (by decide +kernel)) ggX1_build_X5_set
theorem dX1_build_56 : decode cX1_build 56 = .ok (.invokevirtual 131, 3) := by decide +kernel
theorem dX1_build_59 : decode cX1_build 59 = .ok (.aload_n 0, 1) := by decide +kernel
theorem dX1_build_60 : decode cX1_build 60 = .ok (.getfield 82, 3) := by decide +kernel
theorem dX1_build_63 : decode cX1_build 63 = .ok (.iconst (-1), 1) := by decide +kernel
theorem dX1_build_64 : decode cX1_build 64 = .ok (.if_icmp .eq 20, 3) := by decide +kernel
theorem dX1_build_67 : decode cX1_build 67 = .ok (.aload_n 0, 1) := by decide +kernel
theorem dX1_build_68 : decode cX1_build 68 = .ok (.getfield 16, 3) := by decide +kernel
theorem dX1_build_71 : decode cX1_build 71 = .ok (.aload_n 0, 1) := by decide +kernel
theorem dX1_build_72 : decode cX1_build 72 = .ok (.getfield 85, 3) := by decide +kernel
theorem dX1_build_75 : decode cX1_build 75 = .ok (.aload_n 0, 1) := by decide +kernel
theorem dX1_build_76 : decode cX1_build 76 = .ok (.getfield 33, 3) := by decide +kernel
theorem dX1_build_79 : decode cX1_build 79 = .ok (.iload_n 1, 1) := by decide +kernel
theorem dX1_build_80 : decode cX1_build 80 = .ok (.iaload, 1) := by decide +kernel
theorem dX1_build_81 : decode cX1_build 81 = .ok (.invokevirtual 131, 3) := by decide +kernel
theorem dX1_build_84 : decode cX1_build 84 = .ok (.aload_n 3, 1) := by decide +kernel
theorem dX1_build_85 : decode cX1_build 85 = .ok (.aload_n 0, 1) := by decide +kernel
theorem dX1_build_86 : decode cX1_build 86 = .ok (.getfield 76, 3) := by decide +kernel
theorem dX1_build_89 : decode cX1_build 89 = .ok (.aload_n 0, 1) := by decide +kernel
theorem dX1_build_90 : decode cX1_build 90 = .ok (.getfield 16, 3) := by decide +kernel
theorem dX1_build_93 : decode cX1_build 93 = .ok (.aload 4, 2) := by decide +kernel
set_option maxRecDepth 20000 in
theorem ggX1_build_X7_readExactly : GoodIn wsX1_build wsX7_readExactly := goodIn_r _ [76, 77, 78, 79, 80, 81, 82, 83, 17, 18, 19, 20, 21, 84, 23, 24, 25, 85, 86, 87, 38, 88, 89, 27, 28, 29, 30, 90, 91, 92, 93, 50, 51, 52, 53, 54, 55, 94, 95, 96, 59, 97, 98, 99, 100, 101, 102, 103, 104, 105, 106, 107, 108, 109, 110, 111, 112, 113, 44, 45, 46, 114, 115, 116, 117, 32, 33, 34, 118, 119, 120, 149, 150, 151, 141, 142, 143, 144, 145, 146, 147, 148] rfl (by decide +kernel)
set_option maxRecDepth 20000 in
theorem gX1_build_X7_readExactly : GoodIn wsX1_build (wsV RX1 183 RX7 yX7_readExactly wsX7_readExactly) := goodIn_app (goodIn_r _ [72, 73, 74, 75] rfl (by decide +kernel)) ggX1_build_X7_readExactly
theorem dX1_build_95 : decode cX1_build 95 = .ok (.invokevirtual 183, 3) := by decide +kernel
theorem dX1_build_98 : decode cX1_build 98 = .ok (.ireturn, 1) := by decide +kernel
theorem dX1_build_39 : decode cX1_build 39 = .ok (.aload_n 0, 1) := by decide +kernel
theorem dX1_build_40 : decode cX1_build 40 = .ok (.getfield 85, 3) := by decide +kernel
theorem dX1_build_43 : decode cX1_build 43 = .ok (.goto 7, 3) := by decide +kernel
