theorem dX6_find_0 : decode cX6_find 0 = .ok (.aload_n 0, 1) := by decide +kernel
theorem dX6_find_1 : decode cX6_find 1 = .ok (.iload_n 2, 1) := by decide +kernel
theorem dX6_find_2 : decode cX6_find 2 = .ok (.putfield 60, 3) := by decide +kernel
theorem dX6_find_5 : decode cX6_find 5 = .ok (.aload_n 1, 1) := by decide +kernel
set_option maxRecDepth 20000 in
theorem ggX6_find_X5_length : GoodIn wsX6_find wsX5_length := goodIn_r _ [13, 14, 203, 204] rfl (by decide +kernel)
set_option maxRecDepth 20000 in
theorem gX6_find_X5_length : GoodIn wsX6_find (wsV RX6 64 RX5 yX5_length wsX5_length) := goodIn_app (goodIn_r _ [9, 10, 11, 12] rfl (by decide +kernel)) ggX6_find_X5_length
theorem dX6_find_6 : decode cX6_find 6 = .ok (.invokevirtual 64, 3) := by decide +kernel
theorem dX6_find_9 : decode cX6_find 9 = .ok (.bipush 60, 2) := by decide +kernel
theorem dX6_find_11 : decode cX6_find 11 = .ok (.invokestatic 68, 3) := by decide +kernel
theorem dX6_find_14 : decode cX6_find 14 = .ok (.istore_n 3, 1) := by decide +kernel
theorem dX6_find_15 : decode cX6_find 15 = .ok (.aload_n 0, 1) := by decide +kernel
theorem dX6_find_16 : decode cX6_find 16 = .ok (.getfield 26, 3) := by decide +kernel
theorem dX6_find_19 : decode cX6_find 19 = .ok (.iload_n 3, 1) := by decide +kernel
theorem dX6_find_20 : decode cX6_find 20 = .ok (.iconst 0, 1) := by decide +kernel
theorem dX6_find_21 : decode cX6_find 21 = .ok (.iastore, 1) := by decide +kernel
theorem dX6_find_22 : decode cX6_find 22 = .ok (.aload_n 0, 1) := by decide +kernel
theorem dX6_find_23 : decode cX6_find 23 = .ok (.getfield 30, 3) := by decide +kernel
theorem dX6_find_26 : decode cX6_find 26 = .ok (.iload_n 3, 1) := by decide +kernel
theorem dX6_find_27 : decode cX6_find 27 = .ok (.iconst 0, 1) := by decide +kernel
theorem dX6_find_28 : decode cX6_find 28 = .ok (.iastore, 1) := by decide +kernel
theorem dX6_find_29 : decode cX6_find 29 = .ok (.iload_n 3, 1) := by decide +kernel
theorem dX6_find_30 : decode cX6_find 30 = .ok (.iconst 1, 1) := by decide +kernel
theorem dX6_find_31 : decode cX6_find 31 = .ok (.isub, 1) := by decide +kernel
theorem dX6_find_32 : decode cX6_find 32 = .ok (.istore 4, 2) := by decide +kernel
theorem dX6_find_34 : decode cX6_find 34 = .ok (.iload 4, 2) := by decide +kernel
theorem dX6_find_36 : decode cX6_find 36 = .ok (.ifCond .lt 56, 3) := by decide +kernel
theorem dX6_find_92 : decode cX6_find 92 = .ok (.return_, 1) := by decide +kernel
theorem dX6_find_39 : decode cX6_find 39 = .ok (.aload_n 0, 1) := by decide +kernel
theorem dX6_find_40 : decode cX6_find 40 = .ok (.getfield 26, 3) := by decide +kernel
theorem dX6_find_43 : decode cX6_find 43 = .ok (.iload 4, 2) := by decide +kernel
theorem dX6_find_45 : decode cX6_find 45 = .ok (.iconst (-1), 1) := by decide +kernel
theorem dX6_find_46 : decode cX6_find 46 = .ok (.iastore, 1) := by decide +kernel
theorem dX6_find_47 : decode cX6_find 47 = .ok (.aload_n 0, 1) := by decide +kernel
theorem dX6_find_48 : decode cX6_find 48 = .ok (.iload 4, 2) := by decide +kernel
theorem dX6_find_50 : decode cX6_find 50 = .ok (.aload_n 1, 1) := by decide +kernel
theorem dX6_find_51 : decode cX6_find 51 = .ok (.iload_n 3, 1) := by decide +kernel
set_option maxRecDepth 20000 in
theorem ggX6_find_X6_tryAsItIs : GoodIn wsX6_find wsX6_tryAsItIs := goodIn_r _ [19, 20, 21, 22, 23, 12, 24, 14, 25, 26, 27, 28, 29, 30, 31, 32, 33, 34, 35, 36, 37, 38, 39, 40, 41, 42, 43, 44, 45, 46, 47, 48, 49, 50, 18, 51, 6, 7, 1, 52, 53, 54, 55, 56, 57, 191, 192, 193, 194, 195, 196, 197, 198, 199, 200, 201, 202, 203, 204, 205, 206, 207] rfl (by decide +kernel)
set_option maxRecDepth 20000 in
theorem gX6_find_X6_tryAsItIs : GoodIn wsX6_find (wsV RX6 74 RX6 yX6_tryAsItIs wsX6_tryAsItIs) := goodIn_app (goodIn_r _ [15, 16, 17, 18] rfl (by decide +kernel)) ggX6_find_X6_tryAsItIs
theorem dX6_find_52 : decode cX6_find 52 = .ok (.invokevirtual 74, 3) := by decide +kernel
theorem dX6_find_55 : decode cX6_find 55 = .ok (.iconst 0, 1) := by decide +kernel
theorem dX6_find_56 : decode cX6_find 56 = .ok (.istore 5, 2) := by decide +kernel
theorem dX6_find_58 : decode cX6_find 58 = .ok (.iload 5, 2) := by decide +kernel
theorem dX6_find_60 : decode cX6_find 60 = .ok (.aload_n 0, 1) := by decide +kernel
theorem dX6_find_61 : decode cX6_find 61 = .ok (.getfield 43, 3) := by decide +kernel
set_option maxRecDepth 20000 in
theorem ggX6_find_X4_length : GoodIn wsX6_find wsX4_length := goodIn_r _ [62, 63, 208, 209, 210, 211] rfl (by decide +kernel)
set_option maxRecDepth 20000 in
theorem gX6_find_X4_length : GoodIn wsX6_find (wsV RX6 78 RX4 yX4_length wsX4_length) := goodIn_app (goodIn_r _ [58, 59, 60, 61] rfl (by decide +kernel)) ggX6_find_X4_length
theorem dX6_find_64 : decode cX6_find 64 = .ok (.invokevirtual 78, 3) := by decide +kernel
theorem dX6_find_67 : decode cX6_find 67 = .ok (.if_icmp .ge 19, 3) := by decide +kernel
theorem dX6_find_86 : decode cX6_find 86 = .ok (.iinc 4 (-1), 3) := by decide +kernel
theorem dX6_find_89 : decode cX6_find 89 = .ok (.goto (-55), 3) := by decide +kernel
theorem dX6_find_70 : decode cX6_find 70 = .ok (.aload_n 0, 1) := by decide +kernel
theorem dX6_find_71 : decode cX6_find 71 = .ok (.iload 5, 2) := by decide +kernel
theorem dX6_find_73 : decode cX6_find 73 = .ok (.iload 4, 2) := by decide +kernel
theorem dX6_find_75 : decode cX6_find 75 = .ok (.aload_n 1, 1) := by decide +kernel
theorem dX6_find_76 : decode cX6_find 76 = .ok (.iload_n 3, 1) := by decide +kernel
set_option maxRecDepth 20000 in
theorem ggX6_find_X6_tryUndone : GoodIn wsX6_find wsX6_tryUndone := goodIn_r _ [67, 68, 69, 70, 8, 71, 72, 73, 74, 75, 76, 77, 78, 79, 80, 81, 82, 12, 83, 14, 84, 85, 86, 61, 87, 63, 88, 21, 22, 23, 24, 25, 89, 90, 91, 92, 93, 94, 95, 96, 97, 98, 99, 100, 101, 102, 103, 104, 105, 106, 107, 108, 109, 110, 111, 112, 113, 114, 115, 116, 117, 118, 119, 120, 121, 122, 123, 124, 125, 126, 127, 128, 129, 9, 10, 11, 13, 130, 131, 132, 133, 134, 135, 136, 137, 138, 139, 140, 141, 4, 142, 143, 144, 145, 146, 147, 148, 149, 150, 151, 152, 153, 154, 155, 156, 157, 158, 159, 160, 161, 162, 163, 164, 165, 166, 167, 168, 169, 170, 171, 172, 173, 174, 175, 27, 28, 29, 30, 31, 32, 33, 34, 35, 36, 37, 38, 39, 40, 41, 42, 43, 44, 45, 46, 47, 176, 177, 178, 179, 180, 181, 182, 183, 184, 185, 186, 187, 188, 189, 190, 48, 49, 50, 18, 51, 6, 7, 1, 52, 53, 54, 55, 56, 57, 191, 192, 193, 194, 195, 196, 197, 198, 199, 200, 201, 202, 212, 213, 214, 215, 216, 217, 203, 204, 208, 209, 210, 211, 218, 219, 220, 221, 222, 223, 205, 206, 207] rfl (by decide +kernel)
set_option maxRecDepth 20000 in
theorem gX6_find_X6_tryUndone : GoodIn wsX6_find (wsV RX6 81 RX6 yX6_tryUndone wsX6_tryUndone) := goodIn_app (goodIn_r _ [64, 65, 66, 18] rfl (by decide +kernel)) ggX6_find_X6_tryUndone
theorem dX6_find_77 : decode cX6_find 77 = .ok (.invokevirtual 81, 3) := by decide +kernel
theorem dX6_find_80 : decode cX6_find 80 = .ok (.iinc 5 1, 3) := by decide +kernel
theorem dX6_find_83 : decode cX6_find 83 = .ok (.goto (-25), 3) := by decide +kernel
