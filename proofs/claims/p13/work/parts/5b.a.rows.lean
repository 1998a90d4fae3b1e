theorem dX6_build_0 : decode cX6_build 0 = .ok (.aload_n 2, 1) := by decide +kernel
theorem dX6_build_1 : decode cX6_build 1 = .ok (.iconst 0, 1) := by decide +kernel
set_option maxRecDepth 20000 in
theorem ggX6_build_X5_cut : GoodIn wsX6_build wsX5_cut := goodIn_r _ [17, 18, 155, 156] rfl (by decide +kernel)
set_option maxRecDepth 20000 in
theorem gX6_build_X5_cut : GoodIn wsX6_build (wsV RX6 101 RX5 yX5_cut wsX5_cut) := goodIn_app (goodIn_r _ [13, 14, 15, 16] rfl (by decide +kernel)) ggX6_build_X5_cut
theorem dX6_build_2 : decode cX6_build 2 = .ok (.invokevirtual 101, 3) := by decide +kernel
theorem dX6_build_5 : decode cX6_build 5 = .ok (.aload_n 1, 1) := by decide +kernel
set_option maxRecDepth 20000 in
theorem ggX6_build_X5_length : GoodIn wsX6_build wsX5_length := goodIn_r _ [22, 18, 155, 156] rfl (by decide +kernel)
set_option maxRecDepth 20000 in
theorem gX6_build_X5_length : GoodIn wsX6_build (wsV RX6 64 RX5 yX5_length wsX5_length) := goodIn_app (goodIn_r _ [19, 20, 21, 16] rfl (by decide +kernel)) ggX6_build_X5_length
theorem dX6_build_6 : decode cX6_build 6 = .ok (.invokevirtual 64, 3) := by decide +kernel
theorem dX6_build_9 : decode cX6_build 9 = .ok (.bipush 60, 2) := by decide +kernel
theorem dX6_build_11 : decode cX6_build 11 = .ok (.invokestatic 68, 3) := by decide +kernel
theorem dX6_build_14 : decode cX6_build 14 = .ok (.istore_n 3, 1) := by decide +kernel
theorem dX6_build_15 : decode cX6_build 15 = .ok (.iconst 0, 1) := by decide +kernel
theorem dX6_build_16 : decode cX6_build 16 = .ok (.istore 4, 2) := by decide +kernel
theorem dX6_build_18 : decode cX6_build 18 = .ok (.iload 4, 2) := by decide +kernel
theorem dX6_build_20 : decode cX6_build 20 = .ok (.iload_n 3, 1) := by decide +kernel
theorem dX6_build_21 : decode cX6_build 21 = .ok (.if_icmp .ge 132, 3) := by decide +kernel
theorem dX6_build_153 : decode cX6_build 153 = .ok (.iconst 1, 1) := by decide +kernel
theorem dX6_build_154 : decode cX6_build 154 = .ok (.ireturn, 1) := by decide +kernel
theorem dX6_build_24 : decode cX6_build 24 = .ok (.aload_n 0, 1) := by decide +kernel
theorem dX6_build_25 : decode cX6_build 25 = .ok (.getfield 20, 3) := by decide +kernel
theorem dX6_build_28 : decode cX6_build 28 = .ok (.iconst 0, 1) := by decide +kernel
theorem dX6_build_29 : decode cX6_build 29 = .ok (.invokevirtual 101, 3) := by decide +kernel
theorem dX6_build_32 : decode cX6_build 32 = .ok (.iload 4, 2) := by decide +kernel
theorem dX6_build_34 : decode cX6_build 34 = .ok (.istore 5, 2) := by decide +kernel
theorem dX6_build_36 : decode cX6_build 36 = .ok (.iload 5, 2) := by decide +kernel
theorem dX6_build_38 : decode cX6_build 38 = .ok (.aload_n 0, 1) := by decide +kernel
theorem dX6_build_39 : decode cX6_build 39 = .ok (.getfield 33, 3) := by decide +kernel
theorem dX6_build_42 : decode cX6_build 42 = .ok (.iload 4, 2) := by decide +kernel
theorem dX6_build_44 : decode cX6_build 44 = .ok (.iaload, 1) := by decide +kernel
theorem dX6_build_45 : decode cX6_build 45 = .ok (.if_icmp .ge 23, 3) := by decide +kernel
theorem dX6_build_68 : decode cX6_build 68 = .ok (.aload_n 0, 1) := by decide +kernel
theorem dX6_build_69 : decode cX6_build 69 = .ok (.getfield 36, 3) := by decide +kernel
theorem dX6_build_72 : decode cX6_build 72 = .ok (.iload 4, 2) := by decide +kernel
theorem dX6_build_74 : decode cX6_build 74 = .ok (.iaload, 1) := by decide +kernel
theorem dX6_build_75 : decode cX6_build 75 = .ok (.iconst (-1), 1) := by decide +kernel
theorem dX6_build_76 : decode cX6_build 76 = .ok (.if_icmp .ne 18, 3) := by decide +kernel
theorem dX6_build_94 : decode cX6_build 94 = .ok (.aload_n 0, 1) := by decide +kernel
theorem dX6_build_95 : decode cX6_build 95 = .ok (.getfield 43, 3) := by decide +kernel
theorem dX6_build_98 : decode cX6_build 98 = .ok (.aload_n 0, 1) := by decide +kernel
theorem dX6_build_99 : decode cX6_build 99 = .ok (.getfield 36, 3) := by decide +kernel
theorem dX6_build_102 : decode cX6_build 102 = .ok (.iload 4, 2) := by decide +kernel
theorem dX6_build_104 : decode cX6_build 104 = .ok (.iaload, 1) := by decide +kernel
theorem dX6_build_105 : decode cX6_build 105 = .ok (.aload_n 0, 1) := by decide +kernel
theorem dX6_build_106 : decode cX6_build 106 = .ok (.getfield 20, 3) := by decide +kernel
theorem dX6_build_109 : decode cX6_build 109 = .ok (.aload_n 0, 1) := by decide +kernel
theorem dX6_build_110 : decode cX6_build 110 = .ok (.getfield 23, 3) := by decide +kernel
set_option maxRecDepth 20000 in
theorem ggX6_build_X4_takeOff : GoodIn wsX6_build wsX4_takeOff := goodIn_r _ [48, 49, 50, 51, 52, 53, 54, 55, 56, 57, 58, 59, 60, 61, 62, 63, 64, 65, 14, 15, 16, 17, 18, 66, 20, 21, 22, 67, 24, 25, 26, 27, 68, 69, 70, 71, 72, 73, 29, 30, 31, 74, 75, 76, 77, 78, 79, 80, 81, 82, 83, 84, 85, 86, 87, 88, 89, 90, 91, 92, 93, 94, 95, 96, 97, 98, 99, 100, 101, 102, 103, 104, 105, 11, 3, 12, 106, 107, 108, 109, 110, 111, 112, 113, 114, 115, 116, 117, 118, 119, 120, 121, 122, 123, 124, 125, 126, 127, 128, 129, 130, 131, 132, 133, 134, 135, 136, 137, 138, 139, 140, 141, 157, 158, 159, 160, 161, 162, 163, 155, 156, 164, 165, 166, 167, 168, 169] rfl (by decide +kernel)
set_option maxRecDepth 20000 in
theorem gX6_build_X4_takeOff : GoodIn wsX6_build (wsV RX6 140 RX4 yX4_takeOff wsX4_takeOff) := goodIn_app (goodIn_r _ [44, 45, 46, 47] rfl (by decide +kernel)) ggX6_build_X4_takeOff
theorem dX6_build_113 : decode cX6_build 113 = .ok (.invokevirtual 140, 3) := by decide +kernel
theorem dX6_build_116 : decode cX6_build 116 = .ok (.ifCond .ne 5, 3) := by decide +kernel
theorem dX6_build_121 : decode cX6_build 121 = .ok (.aload_n 2, 1) := by decide +kernel
theorem dX6_build_122 : decode cX6_build 122 = .ok (.aload_n 0, 1) := by decide +kernel
theorem dX6_build_123 : decode cX6_build 123 = .ok (.getfield 23, 3) := by decide +kernel
set_option maxRecDepth 20000 in
theorem ggX6_build_X5_addAll : GoodIn wsX6_build wsX5_addAll := goodIn_r _ [39, 18, 27, 40, 41, 42, 43, 155, 156] rfl (by decide +kernel)
set_option maxRecDepth 20000 in
theorem gX6_build_X5_addAll : GoodIn wsX6_build (wsV RX6 144 RX5 yX5_addAll wsX5_addAll) := goodIn_app (goodIn_r _ [142, 37, 38, 16] rfl (by decide +kernel)) ggX6_build_X5_addAll
theorem dX6_build_126 : decode cX6_build 126 = .ok (.invokevirtual 144, 3) := by decide +kernel
theorem dX6_build_129 : decode cX6_build 129 = .ok (.ifCond .ne 5, 3) := by decide +kernel
theorem dX6_build_134 : decode cX6_build 134 = .ok (.iload 4, 2) := by decide +kernel
theorem dX6_build_136 : decode cX6_build 136 = .ok (.iconst 1, 1) := by decide +kernel
theorem dX6_build_137 : decode cX6_build 137 = .ok (.iadd, 1) := by decide +kernel
theorem dX6_build_138 : decode cX6_build 138 = .ok (.aload_n 0, 1) := by decide +kernel
theorem dX6_build_139 : decode cX6_build 139 = .ok (.getfield 33, 3) := by decide +kernel
theorem dX6_build_142 : decode cX6_build 142 = .ok (.iload 4, 2) := by decide +kernel
theorem dX6_build_144 : decode cX6_build 144 = .ok (.iaload, 1) := by decide +kernel
theorem dX6_build_145 : decode cX6_build 145 = .ok (.invokestatic 147, 3) := by decide +kernel
theorem dX6_build_148 : decode cX6_build 148 = .ok (.istore 4, 2) := by decide +kernel
theorem dX6_build_150 : decode cX6_build 150 = .ok (.goto (-132), 3) := by decide +kernel
theorem dX6_build_132 : decode cX6_build 132 = .ok (.iconst 0, 1) := by decide +kernel
theorem dX6_build_133 : decode cX6_build 133 = .ok (.ireturn, 1) := by decide +kernel
theorem dX6_build_119 : decode cX6_build 119 = .ok (.iconst 0, 1) := by decide +kernel
theorem dX6_build_120 : decode cX6_build 120 = .ok (.ireturn, 1) := by decide +kernel
theorem dX6_build_79 : decode cX6_build 79 = .ok (.aload_n 0, 1) := by decide +kernel
theorem dX6_build_80 : decode cX6_build 80 = .ok (.getfield 23, 3) := by decide +kernel
theorem dX6_build_83 : decode cX6_build 83 = .ok (.aload_n 0, 1) := by decide +kernel
theorem dX6_build_84 : decode cX6_build 84 = .ok (.getfield 20, 3) := by decide +kernel
set_option maxRecDepth 20000 in
theorem ggX6_build_X5_takeAll : GoodIn wsX6_build wsX5_takeAll := goodIn_r _ [35, 18, 36, 37, 38, 16, 39, 27, 40, 41, 42, 43, 155, 156] rfl (by decide +kernel)
set_option maxRecDepth 20000 in
theorem gX6_build_X5_takeAll : GoodIn wsX6_build (wsV RX6 136 RX5 yX5_takeAll wsX5_takeAll) := goodIn_app (goodIn_r _ [32, 33, 34, 16] rfl (by decide +kernel)) ggX6_build_X5_takeAll
theorem dX6_build_87 : decode cX6_build 87 = .ok (.invokevirtual 136, 3) := by decide +kernel
theorem dX6_build_90 : decode cX6_build 90 = .ok (.pop, 1) := by decide +kernel
theorem dX6_build_91 : decode cX6_build 91 = .ok (.goto 30, 3) := by decide +kernel
theorem dX6_build_48 : decode cX6_build 48 = .ok (.aload_n 0, 1) := by decide +kernel
theorem dX6_build_49 : decode cX6_build 49 = .ok (.getfield 20, 3) := by decide +kernel
theorem dX6_build_52 : decode cX6_build 52 = .ok (.aload_n 1, 1) := by decide +kernel
theorem dX6_build_53 : decode cX6_build 53 = .ok (.iload 5, 2) := by decide +kernel
set_option maxRecDepth 20000 in
theorem ggX6_build_X5_get : GoodIn wsX6_build wsX5_get := goodIn_r _ [26, 18, 27, 155, 156] rfl (by decide +kernel)
set_option maxRecDepth 20000 in
theorem gX6_build_X5_get : GoodIn wsX6_build (wsV RX6 85 RX5 yX5_get wsX5_get) := goodIn_app (goodIn_r _ [23, 24, 25, 16] rfl (by decide +kernel)) ggX6_build_X5_get
theorem dX6_build_55 : decode cX6_build 55 = .ok (.invokevirtual 85, 3) := by decide +kernel
set_option maxRecDepth 20000 in
theorem ggX6_build_X5_add : GoodIn wsX6_build wsX5_add := goodIn_r _ [31, 18, 27, 155, 156] rfl (by decide +kernel)
set_option maxRecDepth 20000 in
theorem gX6_build_X5_add : GoodIn wsX6_build (wsV RX6 132 RX5 yX5_add wsX5_add) := goodIn_app (goodIn_r _ [28, 29, 30, 16] rfl (by decide +kernel)) ggX6_build_X5_add
theorem dX6_build_58 : decode cX6_build 58 = .ok (.invokevirtual 132, 3) := by decide +kernel
theorem dX6_build_61 : decode cX6_build 61 = .ok (.pop, 1) := by decide +kernel
theorem dX6_build_62 : decode cX6_build 62 = .ok (.iinc 5 1, 3) := by decide +kernel
theorem dX6_build_65 : decode cX6_build 65 = .ok (.goto (-29), 3) := by decide +kernel
