theorem dX11_choices_0 : decode cX11_choices 0 = .ok (.aload_n 0, 1) := by decide +kernel
theorem dX11_choices_1 : decode cX11_choices 1 = .ok (.iconst (-1), 1) := by decide +kernel
theorem dX11_choices_2 : decode cX11_choices 2 = .ok (.putfield 90, 3) := by decide +kernel
theorem dX11_choices_5 : decode cX11_choices 5 = .ok (.aload_n 0, 1) := by decide +kernel
theorem dX11_choices_6 : decode cX11_choices 6 = .ok (.getfield 34, 3) := by decide +kernel
set_option maxRecDepth 20000 in
theorem ggX11_choices_X11_marksOf : GoodIn wsX11_choices wsX11_marksOf := goodIn_r _ [7, 8, 9, 10, 11, 12, 13, 14, 15, 16, 17, 18, 19, 236, 237] rfl (by decide +kernel)
set_option maxRecDepth 20000 in
theorem gX11_choices_X11_marksOf : GoodIn wsX11_choices (va_wsS RX11 152 yX11_marksOf wsX11_marksOf) := goodIn_app (goodIn_r _ [4, 5, 6] rfl (by decide +kernel)) ggX11_choices_X11_marksOf
theorem dX11_choices_9 : decode cX11_choices 9 = .ok (.invokestatic 152, 3) := by decide +kernel
theorem dX11_choices_12 : decode cX11_choices 12 = .ok (.istore_n 3, 1) := by decide +kernel
theorem dX11_choices_13 : decode cX11_choices 13 = .ok (.iload_n 1, 1) := by decide +kernel
set_option maxRecDepth 20000 in
theorem ggX11_choices_X2_known : GoodIn wsX11_choices wsX2_known := goodIn_r _ [23] rfl (by decide +kernel)
set_option maxRecDepth 20000 in
theorem gX11_choices_X2_known : GoodIn wsX11_choices (va_wsS RX11 117 yX2_known wsX2_known) := goodIn_app (goodIn_r _ [20, 21, 22] rfl (by decide +kernel)) ggX11_choices_X2_known
theorem dX11_choices_14 : decode cX11_choices 14 = .ok (.invokestatic 117, 3) := by decide +kernel
theorem dX11_choices_17 : decode cX11_choices 17 = .ok (.ifCond .eq 24, 3) := by decide +kernel
theorem dX11_choices_41 : decode cX11_choices 41 = .ok (.iconst 0, 1) := by decide +kernel
theorem dX11_choices_42 : decode cX11_choices 42 = .ok (.istore 4, 2) := by decide +kernel
theorem dX11_choices_44 : decode cX11_choices 44 = .ok (.iload 4, 2) := by decide +kernel
theorem dX11_choices_46 : decode cX11_choices 46 = .ok (.ifCond .eq 15, 3) := by decide +kernel
theorem dX11_choices_61 : decode cX11_choices 61 = .ok (.iconst (-1), 1) := by decide +kernel
theorem dX11_choices_62 : decode cX11_choices 62 = .ok (.ireturn, 1) := by decide +kernel
theorem dX11_choices_20 : decode cX11_choices 20 = .ok (.iload_n 2, 1) := by decide +kernel
theorem dX11_choices_21 : decode cX11_choices 21 = .ok (.invokestatic 117, 3) := by decide +kernel
theorem dX11_choices_24 : decode cX11_choices 24 = .ok (.ifCond .eq 17, 3) := by decide +kernel
theorem dX11_choices_27 : decode cX11_choices 27 = .ok (.iload_n 3, 1) := by decide +kernel
theorem dX11_choices_28 : decode cX11_choices 28 = .ok (.iconst 1, 1) := by decide +kernel
theorem dX11_choices_29 : decode cX11_choices 29 = .ok (.if_icmp .eq 8, 3) := by decide +kernel
theorem dX11_choices_37 : decode cX11_choices 37 = .ok (.iconst 1, 1) := by decide +kernel
theorem dX11_choices_38 : decode cX11_choices 38 = .ok (.goto 4, 3) := by decide +kernel
theorem dX11_choices_49 : decode cX11_choices 49 = .ok (.aload_n 0, 1) := by decide +kernel
theorem dX11_choices_50 : decode cX11_choices 50 = .ok (.getfield 34, 3) := by decide +kernel
set_option maxRecDepth 20000 in
theorem ggX11_choices_X5_length : GoodIn wsX11_choices wsX5_length := goodIn_r _ [13, 14, 236, 237] rfl (by decide +kernel)
set_option maxRecDepth 20000 in
theorem gX11_choices_X5_length : GoodIn wsX11_choices (wsV RX11 94 RX5 yX5_length wsX5_length) := goodIn_app (goodIn_r _ [9, 10, 11, 12] rfl (by decide +kernel)) ggX11_choices_X5_length
theorem dX11_choices_53 : decode cX11_choices 53 = .ok (.invokevirtual 94, 3) := by decide +kernel
theorem dX11_choices_56 : decode cX11_choices 56 = .ok (.bipush 100, 2) := by decide +kernel
theorem dX11_choices_58 : decode cX11_choices 58 = .ok (.if_icmp .le 5, 3) := by decide +kernel
theorem dX11_choices_63 : decode cX11_choices 63 = .ok (.aload_n 0, 1) := by decide +kernel
theorem dX11_choices_64 : decode cX11_choices 64 = .ok (.aload_n 0, 1) := by decide +kernel
theorem dX11_choices_65 : decode cX11_choices 65 = .ok (.getfield 86, 3) := by decide +kernel
theorem dX11_choices_68 : decode cX11_choices 68 = .ok (.iload_n 2, 1) := by decide +kernel
theorem dX11_choices_69 : decode cX11_choices 69 = .ok (.aload_n 0, 1) := by decide +kernel
theorem dX11_choices_70 : decode cX11_choices 70 = .ok (.getfield 34, 3) := by decide +kernel
set_option maxRecDepth 20000 in
theorem ggX11_choices_X1_layOut : GoodIn wsX11_choices wsX1_layOut := goodIn_r _ [28, 29, 30, 31, 32, 33, 34, 35, 36, 12, 37, 14, 38, 10, 11, 13, 39, 16, 17, 18, 19, 40, 41, 42, 43, 44, 45, 46, 22, 47, 48, 49, 50, 51, 52, 53, 54, 55, 56, 57, 58, 59, 60, 61, 62, 63, 64, 65, 66, 67, 68, 69, 70, 71, 72, 73, 74, 75, 238, 239, 240, 241, 242, 243, 244, 245, 246, 247, 248, 249, 250, 251, 252, 253, 254, 255, 256, 257, 236, 237, 258, 259, 260, 261, 262, 263] rfl (by decide +kernel)
set_option maxRecDepth 20000 in
theorem gX11_choices_X1_layOut : GoodIn wsX11_choices (wsV RX11 236 RX1 yX1_layOut wsX1_layOut) := goodIn_app (goodIn_r _ [24, 25, 26, 27] rfl (by decide +kernel)) ggX11_choices_X1_layOut
theorem dX11_choices_73 : decode cX11_choices 73 = .ok (.invokevirtual 236, 3) := by decide +kernel
theorem dX11_choices_76 : decode cX11_choices 76 = .ok (.putfield 90, 3) := by decide +kernel
theorem dX11_choices_79 : decode cX11_choices 79 = .ok (.aload_n 0, 1) := by decide +kernel
theorem dX11_choices_80 : decode cX11_choices 80 = .ok (.getfield 90, 3) := by decide +kernel
theorem dX11_choices_83 : decode cX11_choices 83 = .ok (.iconst (-1), 1) := by decide +kernel
theorem dX11_choices_84 : decode cX11_choices 84 = .ok (.if_icmp .eq 5, 3) := by decide +kernel
theorem dX11_choices_89 : decode cX11_choices 89 = .ok (.aload_n 0, 1) := by decide +kernel
theorem dX11_choices_90 : decode cX11_choices 90 = .ok (.getfield 86, 3) := by decide +kernel
theorem dX11_choices_93 : decode cX11_choices 93 = .ok (.iload_n 1, 1) := by decide +kernel
theorem dX11_choices_94 : decode cX11_choices 94 = .ok (.iload_n 2, 1) := by decide +kernel
set_option maxRecDepth 20000 in
theorem ggX11_choices_X1_find : GoodIn wsX11_choices wsX1_find := goodIn_r _ [79, 80, 81, 82, 83, 84, 30, 29, 31, 85, 33, 86, 87, 88, 89, 27, 90, 91, 92, 93, 94, 95, 96, 97, 98, 38, 10, 11, 12, 13, 14, 99, 100, 101, 22, 102, 103, 16, 17, 18, 19, 104, 105, 106, 107, 58, 59, 60, 61, 62, 63, 108, 109, 110, 67, 111, 112, 113, 114, 115, 116, 117, 118, 119, 6, 120, 121, 122, 123, 124, 125, 126, 52, 53, 54, 127, 128, 129, 130, 131, 132, 133, 134, 135, 136, 137, 138, 139, 140, 141, 142, 143, 144, 145, 146, 147, 148, 149, 150, 151, 152, 153, 154, 155, 156, 157, 158, 159, 160, 161, 162, 163, 164, 165, 166, 167, 168, 169, 170, 171, 172, 173, 174, 175, 176, 177, 178, 179, 180, 181, 182, 183, 184, 185, 186, 187, 188, 189, 190, 191, 192, 193, 194, 195, 196, 197, 198, 199, 200, 201, 202, 203, 204, 205, 206, 207, 208, 209, 210, 211, 212, 213, 214, 215, 216, 217, 218, 219, 220, 221, 222, 223, 238, 239, 240, 241, 242, 243, 244, 245, 246, 247, 248, 249, 250, 251, 252, 253, 254, 255, 256, 257, 236, 237, 258, 259, 260, 261, 262, 263, 264, 265, 266, 267, 268, 269, 270, 271, 272] rfl (by decide +kernel)
set_option maxRecDepth 20000 in
theorem gX11_choices_X1_find : GoodIn wsX11_choices (wsV RX11 240 RX1 yX1_find wsX1_find) := goodIn_app (goodIn_r _ [76, 77, 78, 27] rfl (by decide +kernel)) ggX11_choices_X1_find
theorem dX11_choices_95 : decode cX11_choices 95 = .ok (.invokevirtual 240, 3) := by decide +kernel
theorem dX11_choices_98 : decode cX11_choices 98 = .ok (.ireturn, 1) := by decide +kernel
theorem dX11_choices_87 : decode cX11_choices 87 = .ok (.iconst (-1), 1) := by decide +kernel
theorem dX11_choices_88 : decode cX11_choices 88 = .ok (.ireturn, 1) := by decide +kernel
theorem dX11_choices_32 : decode cX11_choices 32 = .ok (.iload_n 3, 1) := by decide +kernel
theorem dX11_choices_33 : decode cX11_choices 33 = .ok (.iconst 2, 1) := by decide +kernel
theorem dX11_choices_34 : decode cX11_choices 34 = .ok (.if_icmp .ne 7, 3) := by decide +kernel
