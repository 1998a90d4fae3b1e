theorem dX7_passRoughly_0 : decode cX7_passRoughly 0 = .ok (.aload_n 0, 1) := by decide +kernel
theorem dX7_passRoughly_1 : decode cX7_passRoughly 1 = .ok (.iload_n 1, 1) := by decide +kernel
theorem dX7_passRoughly_2 : decode cX7_passRoughly 2 = .ok (.aload_n 3, 1) := by decide +kernel
set_option maxRecDepth 20000 in
theorem ggX7_passRoughly_X7_write : GoodIn wsX7_passRoughly wsX7_write := goodIn_r _ [12, 13, 1, 2, 14, 15, 16, 17, 18, 19, 20, 21, 22, 23, 24, 25, 26, 27, 28, 29, 30, 31, 32, 33, 34, 35, 36, 37, 38, 39, 40, 41, 42, 43, 44, 45, 46, 47, 48, 49, 50, 51, 52, 53, 54, 55, 56, 57, 58, 59, 60, 61, 62, 63, 64, 101, 102, 103, 104, 105, 106, 107, 108, 109, 110, 111] rfl (by decide +kernel)
set_option maxRecDepth 20000 in
theorem gX7_passRoughly_X7_write : GoodIn wsX7_passRoughly (wsV RX7 65 RX7 yX7_write wsX7_write) := goodIn_app (goodIn_r _ [8, 9, 10, 11] rfl (by decide +kernel)) ggX7_passRoughly_X7_write
theorem dX7_passRoughly_3 : decode cX7_passRoughly 3 = .ok (.invokevirtual 65, 3) := by decide +kernel
theorem dX7_passRoughly_6 : decode cX7_passRoughly 6 = .ok (.ifCond .eq 16, 3) := by decide +kernel
theorem dX7_passRoughly_22 : decode cX7_passRoughly 22 = .ok (.iconst (-1), 1) := by decide +kernel
theorem dX7_passRoughly_23 : decode cX7_passRoughly 23 = .ok (.ireturn, 1) := by decide +kernel
theorem dX7_passRoughly_9 : decode cX7_passRoughly 9 = .ok (.aload_n 0, 1) := by decide +kernel
theorem dX7_passRoughly_10 : decode cX7_passRoughly 10 = .ok (.getfield 14, 3) := by decide +kernel
set_option maxRecDepth 20000 in
theorem ggX7_passRoughly_X5_length : GoodIn wsX7_passRoughly wsX5_length := goodIn_r _ [23, 19, 104, 105] rfl (by decide +kernel)
set_option maxRecDepth 20000 in
theorem gX7_passRoughly_X5_length : GoodIn wsX7_passRoughly (wsV RX7 31 RX5 yX5_length wsX5_length) := goodIn_app (goodIn_r _ [20, 21, 22, 17] rfl (by decide +kernel)) ggX7_passRoughly_X5_length
theorem dX7_passRoughly_13 : decode cX7_passRoughly 13 = .ok (.invokevirtual 31, 3) := by decide +kernel
theorem dX7_passRoughly_16 : decode cX7_passRoughly 16 = .ok (.sipush 900, 3) := by decide +kernel
theorem dX7_passRoughly_19 : decode cX7_passRoughly 19 = .ok (.if_icmp .le 5, 3) := by decide +kernel
theorem dX7_passRoughly_24 : decode cX7_passRoughly 24 = .ok (.aload 4, 2) := by decide +kernel
theorem dX7_passRoughly_26 : decode cX7_passRoughly 26 = .ok (.iconst 0, 1) := by decide +kernel
set_option maxRecDepth 20000 in
theorem ggX7_passRoughly_X5_cut : GoodIn wsX7_passRoughly wsX5_cut := goodIn_r _ [18, 19, 104, 105] rfl (by decide +kernel)
set_option maxRecDepth 20000 in
theorem gX7_passRoughly_X5_cut : GoodIn wsX7_passRoughly (wsV RX7 28 RX5 yX5_cut wsX5_cut) := goodIn_app (goodIn_r _ [14, 15, 16, 17] rfl (by decide +kernel)) ggX7_passRoughly_X5_cut
theorem dX7_passRoughly_27 : decode cX7_passRoughly 27 = .ok (.invokevirtual 28, 3) := by decide +kernel
theorem dX7_passRoughly_30 : decode cX7_passRoughly 30 = .ok (.iconst 0, 1) := by decide +kernel
theorem dX7_passRoughly_31 : decode cX7_passRoughly 31 = .ok (.istore 5, 2) := by decide +kernel
theorem dX7_passRoughly_33 : decode cX7_passRoughly 33 = .ok (.iconst 0, 1) := by decide +kernel
theorem dX7_passRoughly_34 : decode cX7_passRoughly 34 = .ok (.istore 6, 2) := by decide +kernel
theorem dX7_passRoughly_36 : decode cX7_passRoughly 36 = .ok (.iload 6, 2) := by decide +kernel
theorem dX7_passRoughly_38 : decode cX7_passRoughly 38 = .ok (.aload_n 0, 1) := by decide +kernel
theorem dX7_passRoughly_39 : decode cX7_passRoughly 39 = .ok (.getfield 14, 3) := by decide +kernel
theorem dX7_passRoughly_42 : decode cX7_passRoughly 42 = .ok (.invokevirtual 31, 3) := by decide +kernel
theorem dX7_passRoughly_45 : decode cX7_passRoughly 45 = .ok (.if_icmp .ge 95, 3) := by decide +kernel
theorem dX7_passRoughly_140 : decode cX7_passRoughly 140 = .ok (.iload 5, 2) := by decide +kernel
theorem dX7_passRoughly_142 : decode cX7_passRoughly 142 = .ok (.ireturn, 1) := by decide +kernel
theorem dX7_passRoughly_48 : decode cX7_passRoughly 48 = .ok (.aload_n 0, 1) := by decide +kernel
theorem dX7_passRoughly_49 : decode cX7_passRoughly 49 = .ok (.getfield 20, 3) := by decide +kernel
theorem dX7_passRoughly_52 : decode cX7_passRoughly 52 = .ok (.iload_n 2, 1) := by decide +kernel
theorem dX7_passRoughly_53 : decode cX7_passRoughly 53 = .ok (.aload_n 0, 1) := by decide +kernel
theorem dX7_passRoughly_54 : decode cX7_passRoughly 54 = .ok (.getfield 14, 3) := by decide +kernel
theorem dX7_passRoughly_57 : decode cX7_passRoughly 57 = .ok (.iload 6, 2) := by decide +kernel
theorem dX7_passRoughly_59 : decode cX7_passRoughly 59 = .ok (.aload_n 0, 1) := by decide +kernel
theorem dX7_passRoughly_60 : decode cX7_passRoughly 60 = .ok (.getfield 14, 3) := by decide +kernel
theorem dX7_passRoughly_63 : decode cX7_passRoughly 63 = .ok (.invokevirtual 31, 3) := by decide +kernel
set_option maxRecDepth 20000 in
theorem ggX7_passRoughly_X2_decode : GoodIn wsX7_passRoughly wsX2_decode := goodIn_r _ [68, 69, 25, 26, 17, 27, 19, 28, 70, 71, 72, 32, 73, 47, 48, 49, 50, 51, 52, 74, 75, 76, 56, 77, 78, 79, 80, 81, 82, 83, 84, 85, 86, 87, 88, 89, 90, 91, 92, 93, 41, 42, 43, 104, 105, 106, 107, 108, 109, 110, 111] rfl (by decide +kernel)
set_option maxRecDepth 20000 in
theorem gX7_passRoughly_X2_decode : GoodIn wsX7_passRoughly (wsV RX7 45 RX2 yX2_decode wsX2_decode) := goodIn_app (goodIn_r _ [65, 66, 67, 32] rfl (by decide +kernel)) ggX7_passRoughly_X2_decode
theorem dX7_passRoughly_66 : decode cX7_passRoughly 66 = .ok (.invokevirtual 45, 3) := by decide +kernel
theorem dX7_passRoughly_69 : decode cX7_passRoughly 69 = .ok (.istore 7, 2) := by decide +kernel
theorem dX7_passRoughly_71 : decode cX7_passRoughly 71 = .ok (.aload 4, 2) := by decide +kernel
theorem dX7_passRoughly_73 : decode cX7_passRoughly 73 = .ok (.iload 7, 2) := by decide +kernel
theorem dX7_passRoughly_75 : decode cX7_passRoughly 75 = .ok (.iconst (-1), 1) := by decide +kernel
theorem dX7_passRoughly_76 : decode cX7_passRoughly 76 = .ok (.if_icmp .ne 8, 3) := by decide +kernel
theorem dX7_passRoughly_84 : decode cX7_passRoughly 84 = .ok (.iload 7, 2) := by decide +kernel
set_option maxRecDepth 20000 in
theorem ggX7_passRoughly_X2_letterIn : GoodIn wsX7_passRoughly wsX2_letterIn := goodIn_r _ [96] rfl (by decide +kernel)
set_option maxRecDepth 20000 in
theorem gX7_passRoughly_X2_letterIn : GoodIn wsX7_passRoughly (va_wsS RX7 49 yX2_letterIn wsX2_letterIn) := goodIn_app (goodIn_r _ [94, 95, 32] rfl (by decide +kernel)) ggX7_passRoughly_X2_letterIn
theorem dX7_passRoughly_86 : decode cX7_passRoughly 86 = .ok (.invokestatic 49, 3) := by decide +kernel
set_option maxRecDepth 20000 in
theorem ggX7_passRoughly_X5_add : GoodIn wsX7_passRoughly wsX5_add := goodIn_r _ [37, 19, 28, 104, 105] rfl (by decide +kernel)
set_option maxRecDepth 20000 in
theorem gX7_passRoughly_X5_add : GoodIn wsX7_passRoughly (wsV RX7 52 RX5 yX5_add wsX5_add) := goodIn_app (goodIn_r _ [97, 35, 36, 17] rfl (by decide +kernel)) ggX7_passRoughly_X5_add
theorem dX7_passRoughly_89 : decode cX7_passRoughly 89 = .ok (.invokevirtual 52, 3) := by decide +kernel
theorem dX7_passRoughly_92 : decode cX7_passRoughly 92 = .ok (.ifCond .ne 5, 3) := by decide +kernel
theorem dX7_passRoughly_97 : decode cX7_passRoughly 97 = .ok (.iload 5, 2) := by decide +kernel
theorem dX7_passRoughly_99 : decode cX7_passRoughly 99 = .ok (.iload 7, 2) := by decide +kernel
theorem dX7_passRoughly_101 : decode cX7_passRoughly 101 = .ok (.iconst (-1), 1) := by decide +kernel
theorem dX7_passRoughly_102 : decode cX7_passRoughly 102 = .ok (.if_icmp .ne 7, 3) := by decide +kernel
theorem dX7_passRoughly_109 : decode cX7_passRoughly 109 = .ok (.iconst 0, 1) := by decide +kernel
theorem dX7_passRoughly_110 : decode cX7_passRoughly 110 = .ok (.iadd, 1) := by decide +kernel
theorem dX7_passRoughly_111 : decode cX7_passRoughly 111 = .ok (.istore 5, 2) := by decide +kernel
theorem dX7_passRoughly_113 : decode cX7_passRoughly 113 = .ok (.iload 6, 2) := by decide +kernel
theorem dX7_passRoughly_115 : decode cX7_passRoughly 115 = .ok (.iload 7, 2) := by decide +kernel
theorem dX7_passRoughly_117 : decode cX7_passRoughly 117 = .ok (.iconst (-1), 1) := by decide +kernel
theorem dX7_passRoughly_118 : decode cX7_passRoughly 118 = .ok (.if_icmp .ne 7, 3) := by decide +kernel
theorem dX7_passRoughly_125 : decode cX7_passRoughly 125 = .ok (.iconst 1, 1) := by decide +kernel
theorem dX7_passRoughly_126 : decode cX7_passRoughly 126 = .ok (.iload 7, 2) := by decide +kernel
set_option maxRecDepth 20000 in
theorem ggX7_passRoughly_X2_bytesIn : GoodIn wsX7_passRoughly wsX2_bytesIn := goodIn_r _ [100] rfl (by decide +kernel)
set_option maxRecDepth 20000 in
theorem gX7_passRoughly_X2_bytesIn : GoodIn wsX7_passRoughly (va_wsS RX7 56 yX2_bytesIn wsX2_bytesIn) := goodIn_app (goodIn_r _ [98, 99, 32] rfl (by decide +kernel)) ggX7_passRoughly_X2_bytesIn
theorem dX7_passRoughly_128 : decode cX7_passRoughly 128 = .ok (.invokestatic 56, 3) := by decide +kernel
theorem dX7_passRoughly_131 : decode cX7_passRoughly 131 = .ok (.invokestatic 59, 3) := by decide +kernel
theorem dX7_passRoughly_134 : decode cX7_passRoughly 134 = .ok (.iadd, 1) := by decide +kernel
theorem dX7_passRoughly_135 : decode cX7_passRoughly 135 = .ok (.istore 6, 2) := by decide +kernel
theorem dX7_passRoughly_137 : decode cX7_passRoughly 137 = .ok (.goto (-101), 3) := by decide +kernel
theorem dX7_passRoughly_95 : decode cX7_passRoughly 95 = .ok (.iconst (-1), 1) := by decide +kernel
theorem dX7_passRoughly_96 : decode cX7_passRoughly 96 = .ok (.ireturn, 1) := by decide +kernel
theorem dX7_passRoughly_79 : decode cX7_passRoughly 79 = .ok (.ldc 73, 2) := by decide +kernel
theorem dX7_passRoughly_81 : decode cX7_passRoughly 81 = .ok (.goto 8, 3) := by decide +kernel
theorem dX7_passRoughly_105 : decode cX7_passRoughly 105 = .ok (.iconst 1, 1) := by decide +kernel
theorem dX7_passRoughly_106 : decode cX7_passRoughly 106 = .ok (.goto 4, 3) := by decide +kernel
theorem dX7_passRoughly_121 : decode cX7_passRoughly 121 = .ok (.iconst 1, 1) := by decide +kernel
theorem dX7_passRoughly_122 : decode cX7_passRoughly 122 = .ok (.goto 12, 3) := by decide +kernel
theorem dX11_rough_0 : decode cX11_rough 0 = .ok (.aload_n 0, 1) := by decide +kernel
theorem dX11_rough_1 : decode cX11_rough 1 = .ok (.iconst (-1), 1) := by decide +kernel
theorem dX11_rough_2 : decode cX11_rough 2 = .ok (.putfield 90, 3) := by decide +kernel
theorem dX11_rough_5 : decode cX11_rough 5 = .ok (.iload_n 1, 1) := by decide +kernel
set_option maxRecDepth 20000 in
theorem ggX11_rough_X2_known : GoodIn wsX11_rough wsX2_known := goodIn_r _ [8] rfl (by decide +kernel)
set_option maxRecDepth 20000 in
theorem gX11_rough_X2_known : GoodIn wsX11_rough (va_wsS RX11 117 yX2_known wsX2_known) := goodIn_app (goodIn_r _ [5, 6, 7] rfl (by decide +kernel)) ggX11_rough_X2_known
theorem dX11_rough_6 : decode cX11_rough 6 = .ok (.invokestatic 117, 3) := by decide +kernel
theorem dX11_rough_9 : decode cX11_rough 9 = .ok (.ifCond .eq 10, 3) := by decide +kernel
theorem dX11_rough_19 : decode cX11_rough 19 = .ok (.iconst (-1), 1) := by decide +kernel
theorem dX11_rough_20 : decode cX11_rough 20 = .ok (.ireturn, 1) := by decide +kernel
theorem dX11_rough_12 : decode cX11_rough 12 = .ok (.iload_n 2, 1) := by decide +kernel
theorem dX11_rough_13 : decode cX11_rough 13 = .ok (.invokestatic 117, 3) := by decide +kernel
theorem dX11_rough_16 : decode cX11_rough 16 = .ok (.ifCond .ne 5, 3) := by decide +kernel
theorem dX11_rough_21 : decode cX11_rough 21 = .ok (.aload_n 0, 1) := by decide +kernel
theorem dX11_rough_22 : decode cX11_rough 22 = .ok (.getfield 44, 3) := by decide +kernel
theorem dX11_rough_25 : decode cX11_rough 25 = .ok (.iload_n 1, 1) := by decide +kernel
theorem dX11_rough_26 : decode cX11_rough 26 = .ok (.iload_n 2, 1) := by decide +kernel
theorem dX11_rough_27 : decode cX11_rough 27 = .ok (.aload_n 0, 1) := by decide +kernel
theorem dX11_rough_28 : decode cX11_rough 28 = .ok (.getfield 34, 3) := by decide +kernel
theorem dX11_rough_31 : decode cX11_rough 31 = .ok (.aload_n 0, 1) := by decide +kernel
theorem dX11_rough_32 : decode cX11_rough 32 = .ok (.getfield 37, 3) := by decide +kernel
set_option maxRecDepth 20000 in
theorem ggX11_rough_X7_passRoughly : GoodIn wsX11_rough wsX7_passRoughly := goodIn_r _ [13, 14, 15, 16, 17, 18, 19, 20, 21, 22, 23, 12, 24, 25, 26, 27, 28, 29, 30, 31, 32, 33, 34, 35, 36, 37, 38, 39, 40, 41, 42, 43, 7, 44, 45, 46, 47, 48, 49, 50, 51, 52, 53, 54, 55, 56, 57, 58, 59, 60, 61, 62, 63, 64, 65, 66, 67, 68, 69, 70, 71, 72, 73, 74, 75, 76, 77, 78, 79, 80, 81, 82, 83, 84, 85, 86, 87, 88, 89, 90, 91, 92, 93, 94, 95, 96, 97, 98, 99, 100, 101, 102, 103, 104, 105, 106, 107, 108, 109, 110, 111, 167, 168, 169, 170, 171, 172, 173, 174, 175, 176, 177] rfl (by decide +kernel)
set_option maxRecDepth 20000 in
theorem gX11_rough_X7_passRoughly : GoodIn wsX11_rough (wsV RX11 181 RX7 yX7_passRoughly wsX7_passRoughly) := goodIn_app (goodIn_r _ [9, 10, 11, 12] rfl (by decide +kernel)) ggX11_rough_X7_passRoughly
theorem dX11_rough_35 : decode cX11_rough 35 = .ok (.invokevirtual 181, 3) := by decide +kernel
theorem dX11_rough_38 : decode cX11_rough 38 = .ok (.istore_n 3, 1) := by decide +kernel
theorem dX11_rough_39 : decode cX11_rough 39 = .ok (.aload_n 0, 1) := by decide +kernel
theorem dX11_rough_40 : decode cX11_rough 40 = .ok (.aload_n 0, 1) := by decide +kernel
theorem dX11_rough_41 : decode cX11_rough 41 = .ok (.getfield 44, 3) := by decide +kernel
set_option maxRecDepth 20000 in
theorem ggX11_rough_X7_fault : GoodIn wsX11_rough wsX7_fault := goodIn_r _ [115, 25, 167, 168, 169] rfl (by decide +kernel)
set_option maxRecDepth 20000 in
theorem gX11_rough_X7_fault : GoodIn wsX11_rough (wsV RX11 127 RX7 yX7_fault wsX7_fault) := goodIn_app (goodIn_r _ [112, 113, 114, 12] rfl (by decide +kernel)) ggX11_rough_X7_fault
theorem dX11_rough_44 : decode cX11_rough 44 = .ok (.invokevirtual 127, 3) := by decide +kernel
theorem dX11_rough_47 : decode cX11_rough 47 = .ok (.putfield 90, 3) := by decide +kernel
theorem dX11_rough_50 : decode cX11_rough 50 = .ok (.iload_n 3, 1) := by decide +kernel
theorem dX11_rough_51 : decode cX11_rough 51 = .ok (.iconst (-1), 1) := by decide +kernel
theorem dX11_rough_52 : decode cX11_rough 52 = .ok (.if_icmp .ne 5, 3) := by decide +kernel
theorem dX11_rough_57 : decode cX11_rough 57 = .ok (.aload_n 0, 1) := by decide +kernel
theorem dX11_rough_58 : decode cX11_rough 58 = .ok (.aload_n 0, 1) := by decide +kernel
theorem dX11_rough_59 : decode cX11_rough 59 = .ok (.getfield 37, 3) := by decide +kernel
set_option maxRecDepth 20000 in
theorem ggX11_rough_X11_become : GoodIn wsX11_rough wsX11_become := goodIn_r _ [119, 120, 3, 121, 122, 123, 124, 125, 126, 127, 128, 19, 129, 130, 131, 132, 133, 134, 33, 34, 29, 35, 31, 135, 37, 38, 39, 40, 136, 137, 138, 139, 140, 141, 142, 143, 144, 145, 146, 147, 148, 149, 150, 151, 152, 153, 154, 155, 156, 157, 158, 159, 160, 161, 162, 163, 164, 165, 166, 178, 179, 180, 181, 170, 171, 182, 183, 184, 185, 186, 187, 188, 189, 190, 191, 192, 193, 194, 195, 196, 197, 198, 199, 200, 201] rfl (by decide +kernel)
set_option maxRecDepth 20000 in
theorem gX11_rough_X11_become : GoodIn wsX11_rough (wsV RX11 113 RX11 yX11_become wsX11_become) := goodIn_app (goodIn_r _ [116, 117, 118, 97] rfl (by decide +kernel)) ggX11_rough_X11_become
theorem dX11_rough_62 : decode cX11_rough 62 = .ok (.invokevirtual 113, 3) := by decide +kernel
theorem dX11_rough_65 : decode cX11_rough 65 = .ok (.pop, 1) := by decide +kernel
theorem dX11_rough_66 : decode cX11_rough 66 = .ok (.iload_n 3, 1) := by decide +kernel
theorem dX11_rough_67 : decode cX11_rough 67 = .ok (.ireturn, 1) := by decide +kernel
theorem dX11_rough_55 : decode cX11_rough 55 = .ok (.iconst (-1), 1) := by decide +kernel
theorem dX11_rough_56 : decode cX11_rough 56 = .ok (.ireturn, 1) := by decide +kernel
