theorem dX11_mend_0 : decode cX11_mend 0 = .ok (.aload_n 0, 1) := by decide +kernel
theorem dX11_mend_1 : decode cX11_mend 1 = .ok (.iconst (-1), 1) := by decide +kernel
theorem dX11_mend_2 : decode cX11_mend 2 = .ok (.putfield 90, 3) := by decide +kernel
theorem dX11_mend_5 : decode cX11_mend 5 = .ok (.iload_n 1, 1) := by decide +kernel
theorem dX11_mend_6 : decode cX11_mend 6 = .ok (.iconst 1, 1) := by decide +kernel
theorem dX11_mend_7 : decode cX11_mend 7 = .ok (.if_icmp .lt 19, 3) := by decide +kernel
theorem dX11_mend_26 : decode cX11_mend 26 = .ok (.iconst (-1), 1) := by decide +kernel
theorem dX11_mend_27 : decode cX11_mend 27 = .ok (.ireturn, 1) := by decide +kernel
theorem dX11_mend_10 : decode cX11_mend 10 = .ok (.iload_n 1, 1) := by decide +kernel
theorem dX11_mend_11 : decode cX11_mend 11 = .ok (.iconst 3, 1) := by decide +kernel
theorem dX11_mend_12 : decode cX11_mend 12 = .ok (.if_icmp .gt 14, 3) := by decide +kernel
theorem dX11_mend_15 : decode cX11_mend 15 = .ok (.iload_n 2, 1) := by decide +kernel
theorem dX11_mend_16 : decode cX11_mend 16 = .ok (.iconst 1, 1) := by decide +kernel
theorem dX11_mend_17 : decode cX11_mend 17 = .ok (.if_icmp .lt 9, 3) := by decide +kernel
theorem dX11_mend_20 : decode cX11_mend 20 = .ok (.iload_n 2, 1) := by decide +kernel
theorem dX11_mend_21 : decode cX11_mend 21 = .ok (.ldc 214, 2) := by decide +kernel
theorem dX11_mend_23 : decode cX11_mend 23 = .ok (.if_icmp .le 5, 3) := by decide +kernel
theorem dX11_mend_28 : decode cX11_mend 28 = .ok (.aload_n 0, 1) := by decide +kernel
theorem dX11_mend_29 : decode cX11_mend 29 = .ok (.getfield 68, 3) := by decide +kernel
theorem dX11_mend_32 : decode cX11_mend 32 = .ok (.iload_n 1, 1) := by decide +kernel
theorem dX11_mend_33 : decode cX11_mend 33 = .ok (.aload_n 0, 1) := by decide +kernel
theorem dX11_mend_34 : decode cX11_mend 34 = .ok (.getfield 34, 3) := by decide +kernel
set_option maxRecDepth 20000 in
theorem ggX11_mend_X9_find : GoodIn wsX11_mend wsX9_find := goodIn_r _ [11, 12, 13, 14, 15, 16, 17, 18, 19, 20, 21, 22, 23, 24, 25, 26, 27, 28, 29, 30, 31, 32, 33, 34, 35, 36, 37, 38, 39, 40, 41, 42, 43, 44, 45, 46, 47, 48, 49, 50, 51, 52, 53, 54, 55, 56, 57, 58, 59, 60, 61, 62, 63, 64, 65, 66, 67, 68, 69, 70, 71, 72, 73, 74, 75, 76, 77, 78, 79, 80, 81, 82, 83, 84, 85, 86, 87, 88, 89, 90, 91, 92, 93, 94, 95, 96, 97, 98, 99, 100, 101, 102, 103, 104, 105, 106, 107, 108, 109, 110, 111, 112, 113, 114, 115, 116, 117, 118, 119, 120, 121, 122, 123, 124, 125, 126, 127, 128, 129, 130, 131, 132, 133, 134, 135, 136, 137, 138, 139, 140, 141, 142, 143, 10, 144, 145, 146, 147, 148, 149, 150, 151, 152, 153, 154, 155, 156, 157, 158, 159, 160, 161, 162, 163, 164, 165, 166, 167, 168, 169, 170, 171, 172, 173, 174, 175, 176, 177, 178, 179, 180, 250, 251, 252, 253, 254, 255, 256, 257, 258, 259, 260, 261, 262, 263, 264, 265, 266, 267, 268, 269, 270, 271, 272, 273, 274, 275, 276, 277, 278, 279] rfl (by decide +kernel)
set_option maxRecDepth 20000 in
theorem gX11_mend_X9_find : GoodIn wsX11_mend (wsV RX11 194 RX9 yX9_find wsX9_find) := goodIn_app (goodIn_r _ [7, 8, 9, 10] rfl (by decide +kernel)) ggX11_mend_X9_find
theorem dX11_mend_37 : decode cX11_mend 37 = .ok (.invokevirtual 194, 3) := by decide +kernel
theorem dX11_mend_40 : decode cX11_mend 40 = .ok (.aload_n 0, 1) := by decide +kernel
theorem dX11_mend_41 : decode cX11_mend 41 = .ok (.getfield 68, 3) := by decide +kernel
set_option maxRecDepth 20000 in
theorem ggX11_mend_X9_cheapest : GoodIn wsX11_mend wsX9_cheapest := goodIn_r _ [184, 12, 250, 251, 252, 253, 254, 255, 256, 257, 258, 259, 260, 261] rfl (by decide +kernel)
set_option maxRecDepth 20000 in
theorem gX11_mend_X9_cheapest : GoodIn wsX11_mend (wsV RX11 215 RX9 yX9_cheapest wsX9_cheapest) := goodIn_app (goodIn_r _ [181, 182, 183, 10] rfl (by decide +kernel)) ggX11_mend_X9_cheapest
theorem dX11_mend_44 : decode cX11_mend 44 = .ok (.invokevirtual 215, 3) := by decide +kernel
theorem dX11_mend_47 : decode cX11_mend 47 = .ok (.istore_n 3, 1) := by decide +kernel
theorem dX11_mend_48 : decode cX11_mend 48 = .ok (.iload_n 3, 1) := by decide +kernel
theorem dX11_mend_49 : decode cX11_mend 49 = .ok (.iconst (-1), 1) := by decide +kernel
theorem dX11_mend_50 : decode cX11_mend 50 = .ok (.if_icmp .eq 27, 3) := by decide +kernel
theorem dX11_mend_77 : decode cX11_mend 77 = .ok (.iconst (-1), 1) := by decide +kernel
theorem dX11_mend_78 : decode cX11_mend 78 = .ok (.ireturn, 1) := by decide +kernel
theorem dX11_mend_53 : decode cX11_mend 53 = .ok (.aload_n 0, 1) := by decide +kernel
theorem dX11_mend_54 : decode cX11_mend 54 = .ok (.getfield 52, 3) := by decide +kernel
theorem dX11_mend_57 : decode cX11_mend 57 = .ok (.aload_n 0, 1) := by decide +kernel
theorem dX11_mend_58 : decode cX11_mend 58 = .ok (.getfield 34, 3) := by decide +kernel
set_option maxRecDepth 20000 in
theorem ggX11_mend_X3_ofText : GoodIn wsX11_mend wsX3_ofText := goodIn_r _ [151, 152, 53, 54, 49, 55, 51, 153, 57, 58, 59, 60, 154, 155, 156, 150, 157, 158, 159, 160, 161, 162, 163, 164, 165, 166, 167, 168, 169, 170, 171, 172, 173, 174, 269, 270, 277, 278, 279] rfl (by decide +kernel)
set_option maxRecDepth 20000 in
theorem gX11_mend_X3_ofText : GoodIn wsX11_mend (wsV RX11 211 RX3 yX3_ofText wsX3_ofText) := goodIn_app (goodIn_r _ [185, 148, 149, 150] rfl (by decide +kernel)) ggX11_mend_X3_ofText
theorem dX11_mend_61 : decode cX11_mend 61 = .ok (.invokevirtual 211, 3) := by decide +kernel
theorem dX11_mend_64 : decode cX11_mend 64 = .ok (.aload_n 0, 1) := by decide +kernel
theorem dX11_mend_65 : decode cX11_mend 65 = .ok (.getfield 68, 3) := by decide +kernel
theorem dX11_mend_68 : decode cX11_mend 68 = .ok (.iload_n 3, 1) := by decide +kernel
set_option maxRecDepth 20000 in
theorem ggX11_mend_X9_costAt : GoodIn wsX11_mend wsX9_costAt := goodIn_r _ [189, 12, 250, 251, 252, 253, 254, 255, 256, 257, 258, 259, 260, 261] rfl (by decide +kernel)
set_option maxRecDepth 20000 in
theorem gX11_mend_X9_costAt : GoodIn wsX11_mend (wsV RX11 218 RX9 yX9_costAt wsX9_costAt) := goodIn_app (goodIn_r _ [186, 187, 188, 10] rfl (by decide +kernel)) ggX11_mend_X9_costAt
theorem dX11_mend_69 : decode cX11_mend 69 = .ok (.invokevirtual 218, 3) := by decide +kernel
theorem dX11_mend_72 : decode cX11_mend 72 = .ok (.isub, 1) := by decide +kernel
theorem dX11_mend_73 : decode cX11_mend 73 = .ok (.iload_n 2, 1) := by decide +kernel
theorem dX11_mend_74 : decode cX11_mend 74 = .ok (.if_icmp .ge 5, 3) := by decide +kernel
theorem dX11_mend_79 : decode cX11_mend 79 = .ok (.aload_n 0, 1) := by decide +kernel
theorem dX11_mend_80 : decode cX11_mend 80 = .ok (.getfield 68, 3) := by decide +kernel
theorem dX11_mend_83 : decode cX11_mend 83 = .ok (.iload_n 3, 1) := by decide +kernel
theorem dX11_mend_84 : decode cX11_mend 84 = .ok (.aload_n 0, 1) := by decide +kernel
theorem dX11_mend_85 : decode cX11_mend 85 = .ok (.getfield 34, 3) := by decide +kernel
theorem dX11_mend_88 : decode cX11_mend 88 = .ok (.aload_n 0, 1) := by decide +kernel
theorem dX11_mend_89 : decode cX11_mend 89 = .ok (.getfield 37, 3) := by decide +kernel
set_option maxRecDepth 20000 in
theorem ggX11_mend_X9_build : GoodIn wsX11_mend wsX9_build := goodIn_r _ [193, 14, 180, 13, 15, 194, 195, 196, 49, 197, 51, 198, 199, 200, 201, 60, 202, 203, 204, 205, 27, 28, 29, 24, 30, 26, 31, 32, 33, 34, 35, 36, 37, 38, 39, 40, 41, 42, 43, 44, 45, 46, 47, 48, 50, 52, 53, 54, 55, 56, 57, 58, 59, 61, 62, 63, 64, 65, 66, 67, 68, 69, 70, 71, 72, 73, 74, 75, 76, 77, 78, 79, 80, 81, 82, 83, 84, 85, 86, 87, 88, 89, 90, 91, 92, 93, 94, 95, 96, 97, 98, 99, 100, 101, 102, 103, 104, 105, 106, 107, 108, 109, 110, 111, 112, 113, 114, 115, 116, 117, 118, 119, 120, 121, 122, 123, 124, 125, 126, 127, 128, 129, 130, 131, 132, 133, 134, 135, 136, 137, 138, 139, 140, 250, 251, 252, 253, 254, 255, 256, 257, 258, 259, 260, 261, 269, 270, 262, 263, 264, 265, 266, 267, 268, 271, 272, 273, 274, 275, 276] rfl (by decide +kernel)
set_option maxRecDepth 20000 in
theorem gX11_mend_X9_build : GoodIn wsX11_mend (wsV RX11 221 RX9 yX9_build wsX9_build) := goodIn_app (goodIn_r _ [190, 191, 192, 10] rfl (by decide +kernel)) ggX11_mend_X9_build
theorem dX11_mend_92 : decode cX11_mend 92 = .ok (.invokevirtual 221, 3) := by decide +kernel
theorem dX11_mend_95 : decode cX11_mend 95 = .ok (.ifCond .ne 5, 3) := by decide +kernel
theorem dX11_mend_100 : decode cX11_mend 100 = .ok (.aload_n 0, 1) := by decide +kernel
theorem dX11_mend_101 : decode cX11_mend 101 = .ok (.aload_n 0, 1) := by decide +kernel
theorem dX11_mend_102 : decode cX11_mend 102 = .ok (.getfield 37, 3) := by decide +kernel
set_option maxRecDepth 20000 in
theorem ggX11_mend_X11_become : GoodIn wsX11_mend wsX11_become := goodIn_r _ [209, 210, 4, 211, 212, 213, 214, 215, 216, 217, 218, 103, 219, 220, 221, 222, 223, 224, 53, 54, 49, 55, 51, 225, 57, 58, 59, 60, 226, 195, 196, 197, 198, 199, 200, 201, 202, 203, 204, 205, 227, 228, 229, 230, 231, 232, 233, 238, 239, 240, 241, 242, 243, 244, 245, 246, 247, 248, 249, 280, 281, 282, 283, 269, 270, 284, 285, 286, 287, 288, 289, 290, 291, 292, 293, 294, 295, 296, 297, 298, 299, 300, 301, 302, 303] rfl (by decide +kernel)
set_option maxRecDepth 20000 in
theorem gX11_mend_X11_become : GoodIn wsX11_mend (wsV RX11 113 RX11 yX11_become wsX11_become) := goodIn_app (goodIn_r _ [206, 207, 208, 126] rfl (by decide +kernel)) ggX11_mend_X11_become
theorem dX11_mend_105 : decode cX11_mend 105 = .ok (.invokevirtual 113, 3) := by decide +kernel
theorem dX11_mend_108 : decode cX11_mend 108 = .ok (.pop, 1) := by decide +kernel
theorem dX11_mend_109 : decode cX11_mend 109 = .ok (.aload_n 0, 1) := by decide +kernel
theorem dX11_mend_110 : decode cX11_mend 110 = .ok (.getfield 68, 3) := by decide +kernel
theorem dX11_mend_113 : decode cX11_mend 113 = .ok (.iload_n 3, 1) := by decide +kernel
set_option maxRecDepth 20000 in
theorem ggX11_mend_X9_numberOf : GoodIn wsX11_mend wsX9_numberOf := goodIn_r _ [237, 12, 250, 251, 252, 253, 254, 255, 256, 257, 258, 259, 260, 261] rfl (by decide +kernel)
set_option maxRecDepth 20000 in
theorem gX11_mend_X9_numberOf : GoodIn wsX11_mend (wsV RX11 224 RX9 yX9_numberOf wsX9_numberOf) := goodIn_app (goodIn_r _ [234, 235, 236, 10] rfl (by decide +kernel)) ggX11_mend_X9_numberOf
theorem dX11_mend_114 : decode cX11_mend 114 = .ok (.invokevirtual 224, 3) := by decide +kernel
theorem dX11_mend_117 : decode cX11_mend 117 = .ok (.ireturn, 1) := by decide +kernel
theorem dX11_mend_98 : decode cX11_mend 98 = .ok (.iconst (-1), 1) := by decide +kernel
theorem dX11_mend_99 : decode cX11_mend 99 = .ok (.ireturn, 1) := by decide +kernel
