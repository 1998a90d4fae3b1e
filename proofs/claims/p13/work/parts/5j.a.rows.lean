theorem dX1_tryLast_0 : decode cX1_tryLast 0 = .ok (.iconst 0, 1) := by decide +kernel
theorem dX1_tryLast_1 : decode cX1_tryLast 1 = .ok (.istore_n 2, 1) := by decide +kernel
theorem dX1_tryLast_2 : decode cX1_tryLast 2 = .ok (.iload_n 2, 1) := by decide +kernel
theorem dX1_tryLast_3 : decode cX1_tryLast 3 = .ok (.sipush 256, 3) := by decide +kernel
theorem dX1_tryLast_6 : decode cX1_tryLast 6 = .ok (.if_icmp .ge 50, 3) := by decide +kernel
theorem dX1_tryLast_56 : decode cX1_tryLast 56 = .ok (.return_, 1) := by decide +kernel
theorem dX1_tryLast_9 : decode cX1_tryLast 9 = .ok (.aload_n 0, 1) := by decide +kernel
theorem dX1_tryLast_10 : decode cX1_tryLast 10 = .ok (.getfield 42, 3) := by decide +kernel
theorem dX1_tryLast_13 : decode cX1_tryLast 13 = .ok (.aload_n 0, 1) := by decide +kernel
theorem dX1_tryLast_14 : decode cX1_tryLast 14 = .ok (.getfield 79, 3) := by decide +kernel
theorem dX1_tryLast_17 : decode cX1_tryLast 17 = .ok (.iload_n 2, 1) := by decide +kernel
set_option maxRecDepth 20000 in
theorem ggX1_tryLast_X2_letterAlone : GoodIn wsX1_tryLast wsX2_letterAlone := goodIn_r _ [9, 10, 11, 12, 8, 13, 14, 15, 16, 17, 18, 19, 20, 21, 169, 170, 171, 172, 173, 174] rfl (by decide +kernel)
set_option maxRecDepth 20000 in
theorem gX1_tryLast_X2_letterAlone : GoodIn wsX1_tryLast (wsV RX1 127 RX2 yX2_letterAlone wsX2_letterAlone) := goodIn_app (goodIn_r _ [5, 6, 7, 8] rfl (by decide +kernel)) ggX1_tryLast_X2_letterAlone
theorem dX1_tryLast_18 : decode cX1_tryLast 18 = .ok (.invokevirtual 127, 3) := by decide +kernel
theorem dX1_tryLast_21 : decode cX1_tryLast 21 = .ok (.iconst (-1), 1) := by decide +kernel
theorem dX1_tryLast_22 : decode cX1_tryLast 22 = .ok (.if_icmp .ne 28, 3) := by decide +kernel
theorem dX1_tryLast_50 : decode cX1_tryLast 50 = .ok (.iinc 2 1, 3) := by decide +kernel
theorem dX1_tryLast_53 : decode cX1_tryLast 53 = .ok (.goto (-51), 3) := by decide +kernel
theorem dX1_tryLast_25 : decode cX1_tryLast 25 = .ok (.aload_n 0, 1) := by decide +kernel
theorem dX1_tryLast_26 : decode cX1_tryLast 26 = .ok (.getfield 16, 3) := by decide +kernel
theorem dX1_tryLast_29 : decode cX1_tryLast 29 = .ok (.aload_n 0, 1) := by decide +kernel
theorem dX1_tryLast_30 : decode cX1_tryLast 30 = .ok (.getfield 85, 3) := by decide +kernel
theorem dX1_tryLast_33 : decode cX1_tryLast 33 = .ok (.iload_n 2, 1) := by decide +kernel
set_option maxRecDepth 20000 in
theorem ggX1_tryLast_X5_set : GoodIn wsX1_tryLast wsX5_set := goodIn_r _ [26, 27, 28, 175, 176] rfl (by decide +kernel)
set_option maxRecDepth 20000 in
theorem gX1_tryLast_X5_set : GoodIn wsX1_tryLast (wsV RX1 131 RX5 yX5_set wsX5_set) := goodIn_app (goodIn_r _ [22, 23, 24, 25] rfl (by decide +kernel)) ggX1_tryLast_X5_set
theorem dX1_tryLast_34 : decode cX1_tryLast 34 = .ok (.invokevirtual 131, 3) := by decide +kernel
theorem dX1_tryLast_37 : decode cX1_tryLast 37 = .ok (.aload_n 0, 1) := by decide +kernel
set_option maxRecDepth 20000 in
theorem ggX1_tryLast_X1_comesBack : GoodIn wsX1_tryLast wsX1_comesBack := goodIn_r _ [33, 3, 1, 2, 4, 34, 35, 36, 37, 25, 38, 27, 39, 40, 41, 8, 42, 43, 44, 45, 46, 28, 47, 6, 7, 9, 10, 11, 12, 13, 14, 15, 16, 17, 18, 19, 20, 21, 48, 49, 50, 51, 52, 53, 54, 55, 56, 57, 58, 59, 60, 61, 62, 63, 64, 65, 149, 150, 151, 152, 153, 154, 155, 156, 157, 158, 159, 160, 161, 162, 163, 164, 165, 166, 167, 168, 175, 176, 169, 170, 171, 172, 173, 174] rfl (by decide +kernel)
set_option maxRecDepth 20000 in
theorem gX1_tryLast_X1_comesBack : GoodIn wsX1_tryLast (wsV RX1 155 RX1 yX1_comesBack wsX1_comesBack) := goodIn_app (goodIn_r _ [29, 30, 31, 32] rfl (by decide +kernel)) ggX1_tryLast_X1_comesBack
theorem dX1_tryLast_38 : decode cX1_tryLast 38 = .ok (.invokevirtual 155, 3) := by decide +kernel
theorem dX1_tryLast_41 : decode cX1_tryLast 41 = .ok (.ifCond .eq 9, 3) := by decide +kernel
theorem dX1_tryLast_44 : decode cX1_tryLast 44 = .ok (.aload_n 0, 1) := by decide +kernel
theorem dX1_tryLast_45 : decode cX1_tryLast 45 = .ok (.iload_n 1, 1) := by decide +kernel
theorem dX1_tryLast_46 : decode cX1_tryLast 46 = .ok (.iload_n 2, 1) := by decide +kernel
set_option maxRecDepth 20000 in
theorem ggX1_tryLast_X1_tryWhole : GoodIn wsX1_tryLast wsX1_tryWhole := goodIn_r _ [69, 70, 71, 4, 72, 3, 73, 74, 75, 76, 77, 78, 79, 80, 81, 82, 83, 84, 85, 86, 87, 88, 89, 35, 36, 37, 25, 38, 27, 90, 91, 92, 93, 94, 95, 96, 97, 98, 99, 100, 40, 41, 8, 42, 43, 44, 45, 46, 28, 47, 6, 7, 9, 10, 11, 12, 13, 14, 15, 16, 17, 18, 19, 20, 21, 48, 49, 50, 51, 52, 53, 54, 55, 56, 57, 58, 59, 60, 61, 62, 63, 64, 65, 101, 102, 103, 104, 105, 106, 107, 108, 109, 110, 111, 112, 113, 114, 115, 116, 117, 118, 119, 120, 121, 122, 123, 124, 125, 126, 127, 128, 129, 130, 131, 132, 133, 134, 135, 136, 137, 138, 139, 32, 140, 141, 142, 143, 144, 145, 146, 147, 148, 149, 150, 151, 152, 153, 154, 155, 156, 157, 158, 159, 160, 161, 162, 163, 164, 165, 166, 167, 168, 177, 178, 179, 180, 181, 182, 175, 176, 169, 170, 171, 172, 173, 174, 183, 184, 185] rfl (by decide +kernel)
set_option maxRecDepth 20000 in
theorem gX1_tryLast_X1_tryWhole : GoodIn wsX1_tryLast (wsV RX1 159 RX1 yX1_tryWhole wsX1_tryWhole) := goodIn_app (goodIn_r _ [66, 67, 68, 32] rfl (by decide +kernel)) ggX1_tryLast_X1_tryWhole
theorem dX1_tryLast_47 : decode cX1_tryLast 47 = .ok (.invokevirtual 159, 3) := by decide +kernel
