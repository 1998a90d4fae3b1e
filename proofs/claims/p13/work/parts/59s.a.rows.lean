theorem dX9_cheapest_0 : decode cX9_cheapest 0 = .ok (.iconst (-1), 1) := by decide +kernel
theorem dX9_cheapest_1 : decode cX9_cheapest 1 = .ok (.istore_n 1, 1) := by decide +kernel
theorem dX9_cheapest_2 : decode cX9_cheapest 2 = .ok (.iconst 0, 1) := by decide +kernel
theorem dX9_cheapest_3 : decode cX9_cheapest 3 = .ok (.istore_n 2, 1) := by decide +kernel
theorem dX9_cheapest_4 : decode cX9_cheapest 4 = .ok (.iload_n 2, 1) := by decide +kernel
theorem dX9_cheapest_5 : decode cX9_cheapest 5 = .ok (.sipush 258, 3) := by decide +kernel
theorem dX9_cheapest_8 : decode cX9_cheapest 8 = .ok (.if_icmp .ge 41, 3) := by decide +kernel
theorem dX9_cheapest_49 : decode cX9_cheapest 49 = .ok (.iload_n 1, 1) := by decide +kernel
theorem dX9_cheapest_50 : decode cX9_cheapest 50 = .ok (.ireturn, 1) := by decide +kernel
theorem dX9_cheapest_11 : decode cX9_cheapest 11 = .ok (.aload_n 0, 1) := by decide +kernel
theorem dX9_cheapest_12 : decode cX9_cheapest 12 = .ok (.getfield 26, 3) := by decide +kernel
theorem dX9_cheapest_15 : decode cX9_cheapest 15 = .ok (.iload_n 2, 1) := by decide +kernel
theorem dX9_cheapest_16 : decode cX9_cheapest 16 = .ok (.iaload, 1) := by decide +kernel
theorem dX9_cheapest_17 : decode cX9_cheapest 17 = .ok (.iconst (-1), 1) := by decide +kernel
theorem dX9_cheapest_18 : decode cX9_cheapest 18 = .ok (.if_icmp .eq 25, 3) := by decide +kernel
theorem dX9_cheapest_43 : decode cX9_cheapest 43 = .ok (.iinc 2 1, 3) := by decide +kernel
theorem dX9_cheapest_46 : decode cX9_cheapest 46 = .ok (.goto (-42), 3) := by decide +kernel
theorem dX9_cheapest_21 : decode cX9_cheapest 21 = .ok (.iload_n 1, 1) := by decide +kernel
theorem dX9_cheapest_22 : decode cX9_cheapest 22 = .ok (.iconst (-1), 1) := by decide +kernel
theorem dX9_cheapest_23 : decode cX9_cheapest 23 = .ok (.if_icmp .eq 18, 3) := by decide +kernel
theorem dX9_cheapest_41 : decode cX9_cheapest 41 = .ok (.iload_n 2, 1) := by decide +kernel
theorem dX9_cheapest_42 : decode cX9_cheapest 42 = .ok (.istore_n 1, 1) := by decide +kernel
theorem dX9_cheapest_26 : decode cX9_cheapest 26 = .ok (.aload_n 0, 1) := by decide +kernel
theorem dX9_cheapest_27 : decode cX9_cheapest 27 = .ok (.getfield 26, 3) := by decide +kernel
theorem dX9_cheapest_30 : decode cX9_cheapest 30 = .ok (.iload_n 2, 1) := by decide +kernel
theorem dX9_cheapest_31 : decode cX9_cheapest 31 = .ok (.iaload, 1) := by decide +kernel
theorem dX9_cheapest_32 : decode cX9_cheapest 32 = .ok (.aload_n 0, 1) := by decide +kernel
theorem dX9_cheapest_33 : decode cX9_cheapest 33 = .ok (.getfield 26, 3) := by decide +kernel
theorem dX9_cheapest_36 : decode cX9_cheapest 36 = .ok (.iload_n 1, 1) := by decide +kernel
theorem dX9_cheapest_37 : decode cX9_cheapest 37 = .ok (.iaload, 1) := by decide +kernel
theorem dX9_cheapest_38 : decode cX9_cheapest 38 = .ok (.if_icmp .ge 5, 3) := by decide +kernel
theorem dX9_costAt_0 : decode cX9_costAt 0 = .ok (.iload_n 1, 1) := by decide +kernel
theorem dX9_costAt_1 : decode cX9_costAt 1 = .ok (.ifCond .lt 19, 3) := by decide +kernel
theorem dX9_costAt_4 : decode cX9_costAt 4 = .ok (.iload_n 1, 1) := by decide +kernel
theorem dX9_costAt_5 : decode cX9_costAt 5 = .ok (.sipush 258, 3) := by decide +kernel
theorem dX9_costAt_8 : decode cX9_costAt 8 = .ok (.if_icmp .ge 12, 3) := by decide +kernel
theorem dX9_costAt_11 : decode cX9_costAt 11 = .ok (.aload_n 0, 1) := by decide +kernel
theorem dX9_costAt_12 : decode cX9_costAt 12 = .ok (.getfield 26, 3) := by decide +kernel
theorem dX9_costAt_15 : decode cX9_costAt 15 = .ok (.iload_n 1, 1) := by decide +kernel
theorem dX9_costAt_16 : decode cX9_costAt 16 = .ok (.iaload, 1) := by decide +kernel
theorem dX9_costAt_17 : decode cX9_costAt 17 = .ok (.goto 4, 3) := by decide +kernel
theorem dX9_costAt_21 : decode cX9_costAt 21 = .ok (.ireturn, 1) := by decide +kernel
theorem dX9_numberOf_0 : decode cX9_numberOf 0 = .ok (.iconst 0, 1) := by decide +kernel
theorem dX9_numberOf_1 : decode cX9_numberOf 1 = .ok (.istore_n 2, 1) := by decide +kernel
theorem dX9_numberOf_2 : decode cX9_numberOf 2 = .ok (.iconst 0, 1) := by decide +kernel
theorem dX9_numberOf_3 : decode cX9_numberOf 3 = .ok (.istore_n 3, 1) := by decide +kernel
theorem dX9_numberOf_4 : decode cX9_numberOf 4 = .ok (.iload_n 3, 1) := by decide +kernel
theorem dX9_numberOf_5 : decode cX9_numberOf 5 = .ok (.iload_n 1, 1) := by decide +kernel
theorem dX9_numberOf_6 : decode cX9_numberOf 6 = .ok (.if_icmp .ge 29, 3) := by decide +kernel
theorem dX9_numberOf_35 : decode cX9_numberOf 35 = .ok (.iload_n 2, 1) := by decide +kernel
theorem dX9_numberOf_36 : decode cX9_numberOf 36 = .ok (.ireturn, 1) := by decide +kernel
theorem dX9_numberOf_9 : decode cX9_numberOf 9 = .ok (.iload_n 3, 1) := by decide +kernel
theorem dX9_numberOf_10 : decode cX9_numberOf 10 = .ok (.sipush 258, 3) := by decide +kernel
theorem dX9_numberOf_13 : decode cX9_numberOf 13 = .ok (.if_icmp .ge 22, 3) := by decide +kernel
theorem dX9_numberOf_16 : decode cX9_numberOf 16 = .ok (.aload_n 0, 1) := by decide +kernel
theorem dX9_numberOf_17 : decode cX9_numberOf 17 = .ok (.getfield 26, 3) := by decide +kernel
theorem dX9_numberOf_20 : decode cX9_numberOf 20 = .ok (.iload_n 3, 1) := by decide +kernel
theorem dX9_numberOf_21 : decode cX9_numberOf 21 = .ok (.iaload, 1) := by decide +kernel
theorem dX9_numberOf_22 : decode cX9_numberOf 22 = .ok (.iconst (-1), 1) := by decide +kernel
theorem dX9_numberOf_23 : decode cX9_numberOf 23 = .ok (.if_icmp .eq 6, 3) := by decide +kernel
theorem dX9_numberOf_29 : decode cX9_numberOf 29 = .ok (.iinc 3 1, 3) := by decide +kernel
theorem dX9_numberOf_32 : decode cX9_numberOf 32 = .ok (.goto (-28), 3) := by decide +kernel
theorem dX9_numberOf_26 : decode cX9_numberOf 26 = .ok (.iinc 2 1, 3) := by decide +kernel
theorem dX9_build_0 : decode cX9_build 0 = .ok (.iload_n 1, 1) := by decide +kernel
theorem dX9_build_1 : decode cX9_build 1 = .ok (.ifCond .lt 10, 3) := by decide +kernel
theorem dX9_build_4 : decode cX9_build 4 = .ok (.iload_n 1, 1) := by decide +kernel
theorem dX9_build_5 : decode cX9_build 5 = .ok (.sipush 258, 3) := by decide +kernel
theorem dX9_build_8 : decode cX9_build 8 = .ok (.if_icmp .lt 5, 3) := by decide +kernel
theorem dX9_build_13 : decode cX9_build 13 = .ok (.aload_n 0, 1) := by decide +kernel
theorem dX9_build_14 : decode cX9_build 14 = .ok (.getfield 14, 3) := by decide +kernel
theorem dX9_build_17 : decode cX9_build 17 = .ok (.aload_n 2, 1) := by decide +kernel
set_option maxRecDepth 20000 in
theorem ggX9_build_X5_takeAll : GoodIn wsX9_build wsX5_takeAll := goodIn_r _ [9, 10, 11, 12, 13, 8, 14, 15, 16, 17, 18, 19, 145, 146] rfl (by decide +kernel)
set_option maxRecDepth 20000 in
theorem gX9_build_X5_takeAll : GoodIn wsX9_build (wsV RX9 88 RX5 yX5_takeAll wsX5_takeAll) := goodIn_app (goodIn_r _ [5, 6, 7, 8] rfl (by decide +kernel)) ggX9_build_X5_takeAll
theorem dX9_build_18 : decode cX9_build 18 = .ok (.invokevirtual 88, 3) := by decide +kernel
theorem dX9_build_21 : decode cX9_build 21 = .ok (.pop, 1) := by decide +kernel
theorem dX9_build_22 : decode cX9_build 22 = .ok (.iconst 2, 1) := by decide +kernel
theorem dX9_build_23 : decode cX9_build 23 = .ok (.istore 4, 2) := by decide +kernel
theorem dX9_build_25 : decode cX9_build 25 = .ok (.iload 4, 2) := by decide +kernel
theorem dX9_build_27 : decode cX9_build 27 = .ok (.ifCond .lt 62, 3) := by decide +kernel
theorem dX9_build_89 : decode cX9_build 89 = .ok (.aload_n 3, 1) := by decide +kernel
theorem dX9_build_90 : decode cX9_build 90 = .ok (.aload_n 0, 1) := by decide +kernel
theorem dX9_build_91 : decode cX9_build 91 = .ok (.getfield 14, 3) := by decide +kernel
theorem dX9_build_94 : decode cX9_build 94 = .ok (.invokevirtual 88, 3) := by decide +kernel
theorem dX9_build_97 : decode cX9_build 97 = .ok (.ireturn, 1) := by decide +kernel
theorem dX9_build_30 : decode cX9_build 30 = .ok (.aload_n 0, 1) := by decide +kernel
theorem dX9_build_31 : decode cX9_build 31 = .ok (.getfield 33, 3) := by decide +kernel
theorem dX9_build_34 : decode cX9_build 34 = .ok (.iload_n 1, 1) := by decide +kernel
theorem dX9_build_35 : decode cX9_build 35 = .ok (.iconst 3, 1) := by decide +kernel
theorem dX9_build_36 : decode cX9_build 36 = .ok (.imul, 1) := by decide +kernel
theorem dX9_build_37 : decode cX9_build 37 = .ok (.iload 4, 2) := by decide +kernel
theorem dX9_build_39 : decode cX9_build 39 = .ok (.iadd, 1) := by decide +kernel
theorem dX9_build_40 : decode cX9_build 40 = .ok (.iaload, 1) := by decide +kernel
theorem dX9_build_41 : decode cX9_build 41 = .ok (.istore 5, 2) := by decide +kernel
theorem dX9_build_43 : decode cX9_build 43 = .ok (.iload 5, 2) := by decide +kernel
theorem dX9_build_45 : decode cX9_build 45 = .ok (.iconst (-1), 1) := by decide +kernel
theorem dX9_build_46 : decode cX9_build 46 = .ok (.if_icmp .eq 37, 3) := by decide +kernel
theorem dX9_build_83 : decode cX9_build 83 = .ok (.iinc 4 (-1), 3) := by decide +kernel
theorem dX9_build_86 : decode cX9_build 86 = .ok (.goto (-61), 3) := by decide +kernel
theorem dX9_build_49 : decode cX9_build 49 = .ok (.aload_n 0, 1) := by decide +kernel
theorem dX9_build_50 : decode cX9_build 50 = .ok (.getfield 45, 3) := by decide +kernel
theorem dX9_build_53 : decode cX9_build 53 = .ok (.iload 5, 2) := by decide +kernel
theorem dX9_build_55 : decode cX9_build 55 = .ok (.aload_n 0, 1) := by decide +kernel
theorem dX9_build_56 : decode cX9_build 56 = .ok (.getfield 14, 3) := by decide +kernel
theorem dX9_build_59 : decode cX9_build 59 = .ok (.aload_n 0, 1) := by decide +kernel
theorem dX9_build_60 : decode cX9_build 60 = .ok (.getfield 20, 3) := by decide +kernel
set_option maxRecDepth 20000 in
theorem ggX9_build_X4_takeOff : GoodIn wsX9_build wsX4_takeOff := goodIn_r _ [24, 25, 26, 27, 28, 29, 30, 31, 32, 33, 34, 35, 36, 37, 38, 39, 40, 41, 42, 43, 8, 44, 10, 45, 46, 47, 48, 49, 50, 51, 52, 15, 53, 54, 55, 56, 57, 58, 59, 60, 61, 62, 63, 64, 65, 66, 67, 68, 69, 70, 71, 72, 73, 74, 75, 76, 77, 78, 79, 80, 81, 82, 83, 84, 85, 86, 87, 88, 89, 90, 91, 92, 93, 94, 95, 96, 97, 98, 99, 100, 101, 102, 103, 104, 105, 106, 107, 108, 109, 110, 111, 112, 113, 114, 115, 116, 117, 118, 119, 120, 121, 122, 123, 124, 125, 126, 127, 128, 129, 130, 131, 132, 147, 148, 149, 150, 151, 152, 153, 145, 146, 154, 155, 156, 157, 158, 159] rfl (by decide +kernel)
set_option maxRecDepth 20000 in
theorem gX9_build_X4_takeOff : GoodIn wsX9_build (wsV RX9 69 RX4 yX4_takeOff wsX4_takeOff) := goodIn_app (goodIn_r _ [20, 21, 22, 23] rfl (by decide +kernel)) ggX9_build_X4_takeOff
theorem dX9_build_63 : decode cX9_build 63 = .ok (.invokevirtual 69, 3) := by decide +kernel
theorem dX9_build_66 : decode cX9_build 66 = .ok (.ifCond .ne 5, 3) := by decide +kernel
theorem dX9_build_71 : decode cX9_build 71 = .ok (.aload_n 0, 1) := by decide +kernel
theorem dX9_build_72 : decode cX9_build 72 = .ok (.getfield 14, 3) := by decide +kernel
theorem dX9_build_75 : decode cX9_build 75 = .ok (.aload_n 0, 1) := by decide +kernel
theorem dX9_build_76 : decode cX9_build 76 = .ok (.getfield 20, 3) := by decide +kernel
theorem dX9_build_79 : decode cX9_build 79 = .ok (.invokevirtual 88, 3) := by decide +kernel
theorem dX9_build_82 : decode cX9_build 82 = .ok (.pop, 1) := by decide +kernel
theorem dX9_build_69 : decode cX9_build 69 = .ok (.iconst 0, 1) := by decide +kernel
theorem dX9_build_70 : decode cX9_build 70 = .ok (.ireturn, 1) := by decide +kernel
