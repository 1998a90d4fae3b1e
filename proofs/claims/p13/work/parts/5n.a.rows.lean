theorem dX1_build_0 : decode cX1_build 0 = .ok (.iload_n 1, 1) := by decide +kernel
theorem dX1_build_1 : decode cX1_build 1 = .ok (.ifCond .lt 24, 3) := by decide +kernel
theorem dX1_build_4 : decode cX1_build 4 = .ok (.iload_n 1, 1) := by decide +kernel
theorem dX1_build_5 : decode cX1_build 5 = .ok (.aload_n 0, 1) := by decide +kernel
theorem dX1_build_6 : decode cX1_build 6 = .ok (.getfield 65, 3) := by decide +kernel
theorem dX1_build_9 : decode cX1_build 9 = .ok (.if_icmp .ge 16, 3) := by decide +kernel
theorem dX1_build_12 : decode cX1_build 12 = .ok (.aload_n 0, 1) := by decide +kernel
theorem dX1_build_13 : decode cX1_build 13 = .ok (.aload_n 0, 1) := by decide +kernel
theorem dX1_build_14 : decode cX1_build 14 = .ok (.getfield 79, 3) := by decide +kernel
theorem dX1_build_17 : decode cX1_build 17 = .ok (.aload_n 2, 1) := by decide +kernel
set_option maxRecDepth 20000 in
theorem ggX1_build_X1_layOut : GoodIn wsX1_build wsX1_layOut := goodIn_r _ [13, 3, 4, 5, 14, 15, 16, 17, 18, 19, 20, 21, 22, 23, 24, 25, 26, 27, 28, 29, 30, 31, 32, 33, 34, 35, 36, 37, 38, 39, 40, 41, 42, 43, 44, 45, 46, 47, 48, 49, 50, 51, 52, 53, 54, 55, 56, 57, 58, 59, 60, 61, 62, 63, 64, 65, 66, 67, 121, 122, 123, 124, 125, 126, 127, 128, 129, 130, 131, 132, 133, 134, 135, 136, 137, 138, 139, 140, 141, 142, 143, 144, 145, 146, 147, 148] rfl (by decide +kernel)
set_option maxRecDepth 20000 in
theorem gX1_build_X1_layOut : GoodIn wsX1_build (wsV RX1 179 RX1 yX1_layOut wsX1_layOut) := goodIn_app (goodIn_r _ [9, 10, 11, 12] rfl (by decide +kernel)) ggX1_build_X1_layOut
theorem dX1_build_18 : decode cX1_build 18 = .ok (.invokevirtual 179, 3) := by decide +kernel
theorem dX1_build_21 : decode cX1_build 21 = .ok (.iconst (-1), 1) := by decide +kernel
theorem dX1_build_22 : decode cX1_build 22 = .ok (.if_icmp .eq 5, 3) := by decide +kernel
theorem dX1_build_27 : decode cX1_build 27 = .ok (.aload_n 0, 1) := by decide +kernel
theorem dX1_build_28 : decode cX1_build 28 = .ok (.getfield 16, 3) := by decide +kernel
theorem dX1_build_31 : decode cX1_build 31 = .ok (.aload_n 0, 1) := by decide +kernel
theorem dX1_build_32 : decode cX1_build 32 = .ok (.getfield 82, 3) := by decide +kernel
theorem dX1_build_35 : decode cX1_build 35 = .ok (.iconst (-1), 1) := by decide +kernel
theorem dX1_build_36 : decode cX1_build 36 = .ok (.if_icmp .ne 10, 3) := by decide +kernel
theorem dX1_build_46 : decode cX1_build 46 = .ok (.aload_n 0, 1) := by decide +kernel
theorem dX1_build_47 : decode cX1_build 47 = .ok (.getfield 82, 3) := by decide +kernel
theorem dX1_build_50 : decode cX1_build 50 = .ok (.aload_n 0, 1) := by decide +kernel
theorem dX1_build_51 : decode cX1_build 51 = .ok (.getfield 30, 3) := by decide +kernel
theorem dX1_build_54 : decode cX1_build 54 = .ok (.iload_n 1, 1) := by decide +kernel
theorem dX1_build_55 : decode cX1_build 55 = .ok (.iaload, 1) := by decide +kernel
set_option maxRecDepth 20000 in
theorem ggX1_build_X5_set : GoodIn wsX1_build wsX5_set := goodIn_r _ [71, 21, 30, 141, 142] rfl (by decide +kernel)
set_option maxRecDepth 20000 in
theorem gX1_build_X5_set : GoodIn wsX1_build (wsV RX1 131 RX5 yX5_set wsX5_set) := goodIn_app (goodIn_r _ [68, 69, 70, 19] rfl (by decide +kernel)) ggX1_build_X5_set
theorem dX1_build_56 : decode cX1_build 56 = .ok (.invokevirtual 131, 3) := by decide +kernel
theorem dX1_build_59 : decode cX1_build 59 = .ok (.aload_n 0, 1) := by decide +kernel
theorem dX1_build_60 : decode cX1_build 60 = .ok (.getfield 82, 3) := by decide +kernel
theorem dX1_build_63 : decode cX1_build 63 = .ok (.iconst (-1), 1) := by decide +kernel
theorem dX1_build_64 : decode cX1_build 64 = .ok (.if_icmp .eq 20, 3) := by decide +kernel
theorem dX1_build_67 : decode cX1_build 67 = .ok (.aload_n 0, 1) := by decide +kernel
theorem dX1_build_68 : decode cX1_build 68 = .ok (.getfield 16, 3) := by decide +kernel
theorem dX1_build_71 : decode cX1_build 71 = .ok (.aload_n 0, 1) := by decide +kernel
theorem dX1_build_72 : decode cX1_build 72 = .ok (.getfield 85, 3) := by decide +kernel
theorem dX1_build_75 : decode cX1_build 75 = .ok (.aload_n 0, 1) := by decide +kernel
theorem dX1_build_76 : decode cX1_build 76 = .ok (.getfield 33, 3) := by decide +kernel
theorem dX1_build_79 : decode cX1_build 79 = .ok (.iload_n 1, 1) := by decide +kernel
theorem dX1_build_80 : decode cX1_build 80 = .ok (.iaload, 1) := by decide +kernel
theorem dX1_build_81 : decode cX1_build 81 = .ok (.invokevirtual 131, 3) := by decide +kernel
theorem dX1_build_84 : decode cX1_build 84 = .ok (.aload_n 3, 1) := by decide +kernel
theorem dX1_build_85 : decode cX1_build 85 = .ok (.aload_n 0, 1) := by decide +kernel
theorem dX1_build_86 : decode cX1_build 86 = .ok (.getfield 76, 3) := by decide +kernel
theorem dX1_build_89 : decode cX1_build 89 = .ok (.aload_n 0, 1) := by decide +kernel
theorem dX1_build_90 : decode cX1_build 90 = .ok (.getfield 16, 3) := by decide +kernel
theorem dX1_build_93 : decode cX1_build 93 = .ok (.aload 4, 2) := by decide +kernel
set_option maxRecDepth 20000 in
theorem ggX1_build_X7_readExactly : GoodIn wsX1_build wsX7_readExactly := goodIn_r _ [76, 77, 78, 79, 80, 81, 82, 83, 17, 18, 19, 20, 21, 84, 23, 24, 25, 85, 86, 87, 38, 88, 89, 27, 28, 29, 30, 90, 91, 92, 93, 50, 51, 52, 53, 54, 55, 94, 95, 96, 59, 97, 98, 99, 100, 101, 102, 103, 104, 105, 106, 107, 108, 109, 110, 111, 112, 113, 44, 45, 46, 114, 115, 116, 117, 32, 33, 34, 118, 119, 120, 149, 150, 151, 141, 142, 143, 144, 145, 146, 147, 148] rfl (by decide +kernel)
set_option maxRecDepth 20000 in
theorem gX1_build_X7_readExactly : GoodIn wsX1_build (wsV RX1 183 RX7 yX7_readExactly wsX7_readExactly) := goodIn_app (goodIn_r _ [72, 73, 74, 75] rfl (by decide +kernel)) ggX1_build_X7_readExactly
theorem dX1_build_95 : decode cX1_build 95 = .ok (.invokevirtual 183, 3) := by decide +kernel
theorem dX1_build_98 : decode cX1_build 98 = .ok (.ireturn, 1) := by decide +kernel
theorem dX1_build_39 : decode cX1_build 39 = .ok (.aload_n 0, 1) := by decide +kernel
theorem dX1_build_40 : decode cX1_build 40 = .ok (.getfield 85, 3) := by decide +kernel
theorem dX1_build_43 : decode cX1_build 43 = .ok (.goto 7, 3) := by decide +kernel
theorem dX1_build_25 : decode cX1_build 25 = .ok (.iconst 0, 1) := by decide +kernel
theorem dX1_build_26 : decode cX1_build 26 = .ok (.ireturn, 1) := by decide +kernel
