theorem dX6_spans_0 : decode cX6_spans 0 = .ok (.aload_n 0, 1) := by decide +kernel
theorem dX6_spans_1 : decode cX6_spans 1 = .ok (.getfield 30, 3) := by decide +kernel
theorem dX6_spans_4 : decode cX6_spans 4 = .ok (.iconst 0, 1) := by decide +kernel
theorem dX6_spans_5 : decode cX6_spans 5 = .ok (.iaload, 1) := by decide +kernel
theorem dX6_spans_6 : decode cX6_spans 6 = .ok (.ireturn, 1) := by decide +kernel
theorem dX11_parts_0 : decode cX11_parts 0 = .ok (.aload_n 0, 1) := by decide +kernel
theorem dX11_parts_1 : decode cX11_parts 1 = .ok (.iconst (-1), 1) := by decide +kernel
theorem dX11_parts_2 : decode cX11_parts 2 = .ok (.putfield 90, 3) := by decide +kernel
theorem dX11_parts_5 : decode cX11_parts 5 = .ok (.aload_n 0, 1) := by decide +kernel
theorem dX11_parts_6 : decode cX11_parts 6 = .ok (.getfield 34, 3) := by decide +kernel
set_option maxRecDepth 20000 in
theorem ggX11_parts_X5_length : GoodIn wsX11_parts wsX5_length := goodIn_r _ [9, 10, 292, 293] rfl (by decide +kernel)
set_option maxRecDepth 20000 in
theorem gX11_parts_X5_length : GoodIn wsX11_parts (wsV RX11 94 RX5 yX5_length wsX5_length) := goodIn_app (goodIn_r _ [5, 6, 7, 8] rfl (by decide +kernel)) ggX11_parts_X5_length
theorem dX11_parts_9 : decode cX11_parts 9 = .ok (.invokevirtual 94, 3) := by decide +kernel
theorem dX11_parts_12 : decode cX11_parts 12 = .ok (.ifCond .le 19, 3) := by decide +kernel
theorem dX11_parts_31 : decode cX11_parts 31 = .ok (.iconst 0, 1) := by decide +kernel
theorem dX11_parts_32 : decode cX11_parts 32 = .ok (.istore_n 2, 1) := by decide +kernel
theorem dX11_parts_33 : decode cX11_parts 33 = .ok (.iload_n 2, 1) := by decide +kernel
theorem dX11_parts_34 : decode cX11_parts 34 = .ok (.ifCond .eq 14, 3) := by decide +kernel
theorem dX11_parts_48 : decode cX11_parts 48 = .ok (.iconst (-1), 1) := by decide +kernel
theorem dX11_parts_49 : decode cX11_parts 49 = .ok (.ireturn, 1) := by decide +kernel
theorem dX11_parts_15 : decode cX11_parts 15 = .ok (.aload_n 0, 1) := by decide +kernel
theorem dX11_parts_16 : decode cX11_parts 16 = .ok (.getfield 34, 3) := by decide +kernel
theorem dX11_parts_19 : decode cX11_parts 19 = .ok (.invokevirtual 94, 3) := by decide +kernel
theorem dX11_parts_22 : decode cX11_parts 22 = .ok (.bipush 60, 2) := by decide +kernel
theorem dX11_parts_24 : decode cX11_parts 24 = .ok (.if_icmp .gt 7, 3) := by decide +kernel
theorem dX11_parts_27 : decode cX11_parts 27 = .ok (.iconst 1, 1) := by decide +kernel
theorem dX11_parts_28 : decode cX11_parts 28 = .ok (.goto 4, 3) := by decide +kernel
theorem dX11_parts_37 : decode cX11_parts 37 = .ok (.iload_n 1, 1) := by decide +kernel
theorem dX11_parts_38 : decode cX11_parts 38 = .ok (.ifCond .lt 10, 3) := by decide +kernel
theorem dX11_parts_41 : decode cX11_parts 41 = .ok (.iload_n 1, 1) := by decide +kernel
theorem dX11_parts_42 : decode cX11_parts 42 = .ok (.sipush 1000, 3) := by decide +kernel
theorem dX11_parts_45 : decode cX11_parts 45 = .ok (.if_icmp .le 5, 3) := by decide +kernel
theorem dX11_parts_50 : decode cX11_parts 50 = .ok (.aload_n 0, 1) := by decide +kernel
theorem dX11_parts_51 : decode cX11_parts 51 = .ok (.getfield 77, 3) := by decide +kernel
theorem dX11_parts_54 : decode cX11_parts 54 = .ok (.aload_n 0, 1) := by decide +kernel
theorem dX11_parts_55 : decode cX11_parts 55 = .ok (.getfield 34, 3) := by decide +kernel
theorem dX11_parts_58 : decode cX11_parts 58 = .ok (.iload_n 1, 1) := by decide +kernel
set_option maxRecDepth 20000 in
theorem ggX11_parts_X6_find : GoodIn wsX11_parts wsX6_find := goodIn_r _ [15, 16, 17, 18, 19, 20, 21, 22, 23, 24, 6, 7, 8, 9, 10, 25, 26, 27, 14, 28, 29, 30, 31, 32, 33, 34, 35, 36, 37, 38, 39, 40, 41, 42, 43, 44, 45, 46, 47, 48, 49, 50, 51, 52, 53, 54, 55, 56, 57, 58, 59, 60, 61, 62, 63, 64, 65, 66, 67, 68, 69, 70, 71, 72, 73, 74, 75, 76, 77, 78, 79, 80, 81, 82, 83, 84, 85, 86, 87, 88, 89, 90, 91, 92, 93, 94, 95, 96, 97, 98, 99, 100, 101, 102, 103, 104, 105, 106, 107, 108, 109, 110, 111, 112, 113, 114, 115, 116, 117, 118, 119, 120, 121, 122, 123, 124, 125, 126, 127, 128, 129, 130, 131, 132, 133, 134, 135, 136, 137, 138, 139, 140, 141, 142, 143, 144, 145, 146, 147, 148, 149, 150, 151, 152, 153, 154, 155, 156, 157, 158, 159, 160, 161, 162, 163, 164, 165, 166, 167, 168, 169, 170, 171, 172, 173, 174, 175, 176, 177, 178, 179, 180, 181, 182, 183, 184, 185, 186, 187, 188, 189, 190, 191, 192, 193, 194, 195, 196, 197, 198, 199, 294, 295, 296, 297, 298, 299, 300, 301, 302, 303, 304, 305, 292, 293, 306, 307, 308, 309, 310, 311, 312, 313, 314, 315, 316, 317, 318, 319, 320, 321, 322, 323, 324] rfl (by decide +kernel)
set_option maxRecDepth 20000 in
theorem gX11_parts_X6_find : GoodIn wsX11_parts (wsV RX11 227 RX6 yX6_find wsX6_find) := goodIn_app (goodIn_r _ [11, 12, 13, 14] rfl (by decide +kernel)) ggX11_parts_X6_find
theorem dX11_parts_59 : decode cX11_parts 59 = .ok (.invokevirtual 227, 3) := by decide +kernel
theorem dX11_parts_62 : decode cX11_parts 62 = .ok (.aload_n 0, 1) := by decide +kernel
theorem dX11_parts_63 : decode cX11_parts 63 = .ok (.getfield 77, 3) := by decide +kernel
theorem dX11_parts_66 : decode cX11_parts 66 = .ok (.aload_n 0, 1) := by decide +kernel
theorem dX11_parts_67 : decode cX11_parts 67 = .ok (.getfield 34, 3) := by decide +kernel
theorem dX11_parts_70 : decode cX11_parts 70 = .ok (.aload_n 0, 1) := by decide +kernel
theorem dX11_parts_71 : decode cX11_parts 71 = .ok (.getfield 37, 3) := by decide +kernel
set_option maxRecDepth 20000 in
theorem ggX11_parts_X6_build : GoodIn wsX11_parts wsX6_build := goodIn_r _ [203, 17, 18, 19, 20, 204, 61, 62, 205, 23, 206, 150, 151, 89, 90, 91, 8, 92, 10, 24, 6, 7, 9, 30, 31, 32, 33, 34, 207, 104, 105, 106, 208, 209, 210, 211, 212, 213, 214, 215, 216, 217, 218, 219, 220, 221, 222, 70, 223, 72, 224, 97, 138, 225, 226, 227, 228, 229, 230, 231, 232, 233, 234, 235, 236, 237, 238, 239, 240, 99, 100, 101, 102, 103, 107, 108, 109, 110, 111, 112, 113, 114, 115, 116, 117, 118, 119, 120, 121, 122, 123, 124, 125, 126, 127, 128, 129, 130, 131, 132, 133, 241, 242, 243, 244, 245, 246, 153, 154, 155, 156, 157, 158, 159, 160, 161, 162, 163, 164, 165, 166, 167, 168, 169, 170, 171, 172, 173, 174, 175, 176, 177, 178, 179, 180, 247, 182, 183, 248, 249, 186, 187, 250, 294, 295, 296, 297, 298, 299, 300, 301, 302, 303, 304, 305, 292, 293, 309, 310, 311, 312, 325, 326, 327, 319, 320, 321, 322, 323, 324] rfl (by decide +kernel)
set_option maxRecDepth 20000 in
theorem gX11_parts_X6_build : GoodIn wsX11_parts (wsV RX11 230 RX6 yX6_build wsX6_build) := goodIn_app (goodIn_r _ [200, 201, 202, 14] rfl (by decide +kernel)) ggX11_parts_X6_build
theorem dX11_parts_74 : decode cX11_parts 74 = .ok (.invokevirtual 230, 3) := by decide +kernel
theorem dX11_parts_77 : decode cX11_parts 77 = .ok (.ifCond .ne 5, 3) := by decide +kernel
theorem dX11_parts_82 : decode cX11_parts 82 = .ok (.aload_n 0, 1) := by decide +kernel
theorem dX11_parts_83 : decode cX11_parts 83 = .ok (.aload_n 0, 1) := by decide +kernel
theorem dX11_parts_84 : decode cX11_parts 84 = .ok (.getfield 37, 3) := by decide +kernel
set_option maxRecDepth 20000 in
theorem ggX11_parts_X11_become : GoodIn wsX11_parts wsX11_become := goodIn_r _ [254, 255, 2, 256, 257, 258, 259, 260, 261, 262, 18, 19, 20, 263, 264, 265, 266, 267, 6, 7, 8, 9, 10, 268, 31, 32, 33, 34, 269, 209, 210, 211, 212, 213, 214, 215, 216, 217, 218, 219, 270, 271, 272, 273, 274, 275, 5, 280, 281, 282, 283, 284, 285, 286, 287, 288, 289, 290, 291, 328, 329, 330, 331, 292, 293, 332, 333, 334, 335, 336, 337, 338, 339, 340, 341, 342, 343, 344, 345, 346, 347, 348, 349, 350, 351] rfl (by decide +kernel)
set_option maxRecDepth 20000 in
theorem gX11_parts_X11_become : GoodIn wsX11_parts (wsV RX11 113 RX11 yX11_become wsX11_become) := goodIn_app (goodIn_r _ [251, 252, 253, 173] rfl (by decide +kernel)) ggX11_parts_X11_become
theorem dX11_parts_87 : decode cX11_parts 87 = .ok (.invokevirtual 113, 3) := by decide +kernel
theorem dX11_parts_90 : decode cX11_parts 90 = .ok (.pop, 1) := by decide +kernel
theorem dX11_parts_91 : decode cX11_parts 91 = .ok (.aload_n 0, 1) := by decide +kernel
theorem dX11_parts_92 : decode cX11_parts 92 = .ok (.getfield 77, 3) := by decide +kernel
set_option maxRecDepth 20000 in
theorem ggX11_parts_X6_spans : GoodIn wsX11_parts wsX6_spans := goodIn_r _ [279, 22, 294, 295, 296, 297, 298, 299, 300, 301, 302, 303, 304, 305] rfl (by decide +kernel)
set_option maxRecDepth 20000 in
theorem gX11_parts_X6_spans : GoodIn wsX11_parts (wsV RX11 233 RX6 yX6_spans wsX6_spans) := goodIn_app (goodIn_r _ [276, 277, 278, 14] rfl (by decide +kernel)) ggX11_parts_X6_spans
theorem dX11_parts_95 : decode cX11_parts 95 = .ok (.invokevirtual 233, 3) := by decide +kernel
theorem dX11_parts_98 : decode cX11_parts 98 = .ok (.ireturn, 1) := by decide +kernel
theorem dX11_parts_80 : decode cX11_parts 80 = .ok (.iconst (-1), 1) := by decide +kernel
theorem dX11_parts_81 : decode cX11_parts 81 = .ok (.ireturn, 1) := by decide +kernel
