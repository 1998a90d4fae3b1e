theorem dX4_length_0 : decode cX4_length 0 = .ok (.aload_n 0, 1) := by decide +kernel
theorem dX4_length_1 : decode cX4_length 1 = .ok (.getfield 22, 3) := by decide +kernel
theorem dX4_length_4 : decode cX4_length 4 = .ok (.ireturn, 1) := by decide +kernel
theorem dX4_empty_0 : decode cX4_empty 0 = .ok (.aload_n 0, 1) := by decide +kernel
theorem dX4_empty_1 : decode cX4_empty 1 = .ok (.iconst 0, 1) := by decide +kernel
theorem dX4_empty_2 : decode cX4_empty 2 = .ok (.putfield 22, 3) := by decide +kernel
theorem dX4_empty_5 : decode cX4_empty 5 = .ok (.return_, 1) := by decide +kernel
theorem dX4_takeOff_0 : decode cX4_takeOff 0 = .ok (.iload_n 1, 1) := by decide +kernel
theorem dX4_takeOff_1 : decode cX4_takeOff 1 = .ok (.ifCond .lt 39, 3) := by decide +kernel
theorem dX4_takeOff_40 : decode cX4_takeOff 40 = .ok (.iconst 0, 1) := by decide +kernel
theorem dX4_takeOff_41 : decode cX4_takeOff 41 = .ok (.ireturn, 1) := by decide +kernel
theorem dX4_takeOff_4 : decode cX4_takeOff 4 = .ok (.iload_n 1, 1) := by decide +kernel
theorem dX4_takeOff_5 : decode cX4_takeOff 5 = .ok (.aload_n 0, 1) := by decide +kernel
theorem dX4_takeOff_6 : decode cX4_takeOff 6 = .ok (.getfield 22, 3) := by decide +kernel
theorem dX4_takeOff_9 : decode cX4_takeOff 9 = .ok (.if_icmp .ge 31, 3) := by decide +kernel
theorem dX4_takeOff_12 : decode cX4_takeOff 12 = .ok (.aload_n 0, 1) := by decide +kernel
theorem dX4_takeOff_13 : decode cX4_takeOff 13 = .ok (.getfield 18, 3) := by decide +kernel
theorem dX4_takeOff_16 : decode cX4_takeOff 16 = .ok (.aload_n 0, 1) := by decide +kernel
theorem dX4_takeOff_17 : decode cX4_takeOff 17 = .ok (.getfield 15, 3) := by decide +kernel
theorem dX4_takeOff_20 : decode cX4_takeOff 20 = .ok (.iload_n 1, 1) := by decide +kernel
theorem dX4_takeOff_21 : decode cX4_takeOff 21 = .ok (.iaload, 1) := by decide +kernel
theorem dX4_takeOff_22 : decode cX4_takeOff 22 = .ok (.aload_n 0, 1) := by decide +kernel
theorem dX4_takeOff_23 : decode cX4_takeOff 23 = .ok (.getfield 9, 3) := by decide +kernel
theorem dX4_takeOff_26 : decode cX4_takeOff 26 = .ok (.iload_n 1, 1) := by decide +kernel
theorem dX4_takeOff_27 : decode cX4_takeOff 27 = .ok (.iaload, 1) := by decide +kernel
theorem dX4_takeOff_28 : decode cX4_takeOff 28 = .ok (.aload_n 2, 1) := by decide +kernel
theorem dX4_takeOff_29 : decode cX4_takeOff 29 = .ok (.aload_n 3, 1) := by decide +kernel
set_option maxRecDepth 20000 in
theorem ggX4_takeOff_X7_pass : GoodIn wsX4_takeOff wsX7_pass := goodIn_r _ [9, 10, 11, 12, 13, 8, 14, 15, 16, 17, 18, 19, 20, 21, 22, 23, 24, 25, 26, 27, 28, 29, 30, 31, 32, 33, 34, 35, 36, 37, 38, 39, 40, 41, 42, 43, 44, 45, 46, 47, 48, 49, 50, 51, 52, 53, 54, 55, 56, 57, 58, 59, 60, 61, 62, 63, 64, 65, 66, 67, 68, 69, 70, 71, 72, 73, 74, 75, 76, 77, 78, 79, 80, 81, 82, 83, 84, 85, 86, 87, 88, 89, 90, 91, 92, 93, 94, 95, 96, 97, 98, 99, 100, 101, 102, 103, 104, 105, 106, 107, 108, 109, 110, 111, 116, 117, 118, 119, 120, 121, 122, 123, 124, 125, 126] rfl (by decide +kernel)
set_option maxRecDepth 20000 in
theorem gX4_takeOff_X7_pass : GoodIn wsX4_takeOff (wsV RX4 26 RX7 yX7_pass wsX7_pass) := goodIn_app (goodIn_r _ [5, 6, 7, 8] rfl (by decide +kernel)) ggX4_takeOff_X7_pass
theorem dX4_takeOff_30 : decode cX4_takeOff 30 = .ok (.invokevirtual 26, 3) := by decide +kernel
theorem dX4_takeOff_33 : decode cX4_takeOff 33 = .ok (.ifCond .eq 7, 3) := by decide +kernel
theorem dX4_takeOff_36 : decode cX4_takeOff 36 = .ok (.iconst 1, 1) := by decide +kernel
theorem dX4_takeOff_37 : decode cX4_takeOff 37 = .ok (.goto 4, 3) := by decide +kernel
theorem dX3_length_0 : decode cX3_length 0 = .ok (.aload_n 0, 1) := by decide +kernel
theorem dX3_length_1 : decode cX3_length 1 = .ok (.getfield 24, 3) := by decide +kernel
theorem dX3_length_4 : decode cX3_length 4 = .ok (.ireturn, 1) := by decide +kernel
theorem dX3_pairOf_0 : decode cX3_pairOf 0 = .ok (.iload_n 0, 1) := by decide +kernel
theorem dX3_pairOf_1 : decode cX3_pairOf 1 = .ok (.bipush 16, 2) := by decide +kernel
theorem dX3_pairOf_3 : decode cX3_pairOf 3 = .ok (.ishl, 1) := by decide +kernel
theorem dX3_pairOf_4 : decode cX3_pairOf 4 = .ok (.iload_n 1, 1) := by decide +kernel
theorem dX3_pairOf_5 : decode cX3_pairOf 5 = .ok (.ior, 1) := by decide +kernel
theorem dX3_pairOf_6 : decode cX3_pairOf 6 = .ok (.ireturn, 1) := by decide +kernel
theorem dX3_sortOutside_0 : decode cX3_sortOutside 0 = .ok (.iload_n 0, 1) := by decide +kernel
theorem dX3_sortOutside_1 : decode cX3_sortOutside 1 = .ok (.bipush 32, 2) := by decide +kernel
theorem dX3_sortOutside_3 : decode cX3_sortOutside 3 = .ok (.if_icmp .ne 5, 3) := by decide +kernel
theorem dX3_sortOutside_8 : decode cX3_sortOutside 8 = .ok (.iload_n 0, 1) := by decide +kernel
theorem dX3_sortOutside_9 : decode cX3_sortOutside 9 = .ok (.sipush 192, 3) := by decide +kernel
theorem dX3_sortOutside_12 : decode cX3_sortOutside 12 = .ok (.if_icmp .lt 31, 3) := by decide +kernel
theorem dX3_sortOutside_43 : decode cX3_sortOutside 43 = .ok (.iload_n 0, 1) := by decide +kernel
theorem dX3_sortOutside_44 : decode cX3_sortOutside 44 = .ok (.sipush 880, 3) := by decide +kernel
theorem dX3_sortOutside_47 : decode cX3_sortOutside 47 = .ok (.if_icmp .lt 15, 3) := by decide +kernel
theorem dX3_sortOutside_62 : decode cX3_sortOutside 62 = .ok (.iconst 0, 1) := by decide +kernel
theorem dX3_sortOutside_63 : decode cX3_sortOutside 63 = .ok (.ireturn, 1) := by decide +kernel
theorem dX3_sortOutside_15 : decode cX3_sortOutside 15 = .ok (.iload_n 0, 1) := by decide +kernel
theorem dX3_sortOutside_16 : decode cX3_sortOutside 16 = .ok (.sipush 591, 3) := by decide +kernel
theorem dX3_sortOutside_19 : decode cX3_sortOutside 19 = .ok (.if_icmp .gt 24, 3) := by decide +kernel
theorem dX3_sortOutside_50 : decode cX3_sortOutside 50 = .ok (.iload_n 0, 1) := by decide +kernel
theorem dX3_sortOutside_51 : decode cX3_sortOutside 51 = .ok (.sipush 1327, 3) := by decide +kernel
theorem dX3_sortOutside_54 : decode cX3_sortOutside 54 = .ok (.if_icmp .gt 8, 3) := by decide +kernel
theorem dX3_sortOutside_57 : decode cX3_sortOutside 57 = .ok (.bipush 7, 2) := by decide +kernel
theorem dX3_sortOutside_59 : decode cX3_sortOutside 59 = .ok (.goto 4, 3) := by decide +kernel
theorem dX3_sortOutside_22 : decode cX3_sortOutside 22 = .ok (.iload_n 0, 1) := by decide +kernel
theorem dX3_sortOutside_23 : decode cX3_sortOutside 23 = .ok (.sipush 215, 3) := by decide +kernel
theorem dX3_sortOutside_26 : decode cX3_sortOutside 26 = .ok (.if_icmp .eq 10, 3) := by decide +kernel
theorem dX3_sortOutside_36 : decode cX3_sortOutside 36 = .ok (.iconst 0, 1) := by decide +kernel
theorem dX3_sortOutside_37 : decode cX3_sortOutside 37 = .ok (.goto 5, 3) := by decide +kernel
theorem dX3_sortOutside_42 : decode cX3_sortOutside 42 = .ok (.ireturn, 1) := by decide +kernel
theorem dX3_sortOutside_29 : decode cX3_sortOutside 29 = .ok (.iload_n 0, 1) := by decide +kernel
theorem dX3_sortOutside_30 : decode cX3_sortOutside 30 = .ok (.sipush 247, 3) := by decide +kernel
theorem dX3_sortOutside_33 : decode cX3_sortOutside 33 = .ok (.if_icmp .ne 7, 3) := by decide +kernel
theorem dX3_sortOutside_40 : decode cX3_sortOutside 40 = .ok (.bipush 6, 2) := by decide +kernel
theorem dX3_sortOutside_6 : decode cX3_sortOutside 6 = .ok (.iconst 4, 1) := by decide +kernel
theorem dX3_sortOutside_7 : decode cX3_sortOutside 7 = .ok (.ireturn, 1) := by decide +kernel
theorem dX3_sortOf_0 : decode cX3_sortOf 0 = .ok (.iload_n 0, 1) := by decide +kernel
theorem dX3_sortOf_1 : decode cX3_sortOf 1 = .ok (.bipush 33, 2) := by decide +kernel
theorem dX3_sortOf_3 : decode cX3_sortOf 3 = .ok (.if_icmp .lt 9, 3) := by decide +kernel
theorem dX3_sortOf_12 : decode cX3_sortOf 12 = .ok (.iload_n 0, 1) := by decide +kernel
set_option maxRecDepth 20000 in
theorem ggX3_sortOf_X3_sortOutside : GoodIn wsX3_sortOf wsX3_sortOutside := goodIn_r _ [4] rfl (by decide +kernel)
set_option maxRecDepth 20000 in
theorem gX3_sortOf_X3_sortOutside : GoodIn wsX3_sortOf (va_wsS RX3 50 yX3_sortOutside wsX3_sortOutside) := goodIn_app (goodIn_r _ [1, 2, 3] rfl (by decide +kernel)) ggX3_sortOf_X3_sortOutside
theorem dX3_sortOf_13 : decode cX3_sortOf 13 = .ok (.invokestatic 50, 3) := by decide +kernel
theorem dX3_sortOf_16 : decode cX3_sortOf 16 = .ok (.ireturn, 1) := by decide +kernel
theorem dX3_sortOf_6 : decode cX3_sortOf 6 = .ok (.iload_n 0, 1) := by decide +kernel
theorem dX3_sortOf_7 : decode cX3_sortOf 7 = .ok (.bipush 126, 2) := by decide +kernel
theorem dX3_sortOf_9 : decode cX3_sortOf 9 = .ok (.if_icmp .le 8, 3) := by decide +kernel
theorem dX3_sortOf_17 : decode cX3_sortOf 17 = .ok (.iload_n 0, 1) := by decide +kernel
theorem dX3_sortOf_18 : decode cX3_sortOf 18 = .ok (.bipush 97, 2) := by decide +kernel
theorem dX3_sortOf_20 : decode cX3_sortOf 20 = .ok (.if_icmp .lt 11, 3) := by decide +kernel
theorem dX3_sortOf_31 : decode cX3_sortOf 31 = .ok (.iload_n 0, 1) := by decide +kernel
theorem dX3_sortOf_32 : decode cX3_sortOf 32 = .ok (.bipush 65, 2) := by decide +kernel
theorem dX3_sortOf_34 : decode cX3_sortOf 34 = .ok (.if_icmp .lt 11, 3) := by decide +kernel
theorem dX3_sortOf_45 : decode cX3_sortOf 45 = .ok (.iload_n 0, 1) := by decide +kernel
theorem dX3_sortOf_46 : decode cX3_sortOf 46 = .ok (.bipush 48, 2) := by decide +kernel
theorem dX3_sortOf_48 : decode cX3_sortOf 48 = .ok (.if_icmp .lt 13, 3) := by decide +kernel
theorem dX3_sortOf_61 : decode cX3_sortOf 61 = .ok (.iconst 5, 1) := by decide +kernel
theorem dX3_sortOf_62 : decode cX3_sortOf 62 = .ok (.ireturn, 1) := by decide +kernel
theorem dX3_sortOf_51 : decode cX3_sortOf 51 = .ok (.iload_n 0, 1) := by decide +kernel
theorem dX3_sortOf_52 : decode cX3_sortOf 52 = .ok (.bipush 57, 2) := by decide +kernel
theorem dX3_sortOf_54 : decode cX3_sortOf 54 = .ok (.if_icmp .gt 7, 3) := by decide +kernel
theorem dX3_sortOf_57 : decode cX3_sortOf 57 = .ok (.iconst 3, 1) := by decide +kernel
theorem dX3_sortOf_58 : decode cX3_sortOf 58 = .ok (.goto 4, 3) := by decide +kernel
theorem dX3_sortOf_37 : decode cX3_sortOf 37 = .ok (.iload_n 0, 1) := by decide +kernel
theorem dX3_sortOf_38 : decode cX3_sortOf 38 = .ok (.bipush 90, 2) := by decide +kernel
theorem dX3_sortOf_40 : decode cX3_sortOf 40 = .ok (.if_icmp .gt 5, 3) := by decide +kernel
theorem dX3_sortOf_43 : decode cX3_sortOf 43 = .ok (.iconst 2, 1) := by decide +kernel
theorem dX3_sortOf_44 : decode cX3_sortOf 44 = .ok (.ireturn, 1) := by decide +kernel
theorem dX3_sortOf_23 : decode cX3_sortOf 23 = .ok (.iload_n 0, 1) := by decide +kernel
theorem dX3_sortOf_24 : decode cX3_sortOf 24 = .ok (.bipush 122, 2) := by decide +kernel
theorem dX3_sortOf_26 : decode cX3_sortOf 26 = .ok (.if_icmp .gt 5, 3) := by decide +kernel
theorem dX3_sortOf_29 : decode cX3_sortOf 29 = .ok (.iconst 1, 1) := by decide +kernel
theorem dX3_sortOf_30 : decode cX3_sortOf 30 = .ok (.ireturn, 1) := by decide +kernel
theorem dX3_placeFor_0 : decode cX3_placeFor 0 = .ok (.iload_n 1, 1) := by decide +kernel
theorem dX3_placeFor_1 : decode cX3_placeFor 1 = .ok (.iload_n 2, 1) := by decide +kernel
set_option maxRecDepth 20000 in
theorem ggX3_placeFor_X3_pairOf : GoodIn wsX3_placeFor wsX3_pairOf := goodIn_r _ [7] rfl (by decide +kernel)
set_option maxRecDepth 20000 in
theorem gX3_placeFor_X3_pairOf : GoodIn wsX3_placeFor (va_wsS RX3 32 yX3_pairOf wsX3_pairOf) := goodIn_app (goodIn_r _ [4, 5, 6] rfl (by decide +kernel)) ggX3_placeFor_X3_pairOf
theorem dX3_placeFor_2 : decode cX3_placeFor 2 = .ok (.invokestatic 32, 3) := by decide +kernel
theorem dX3_placeFor_5 : decode cX3_placeFor 5 = .ok (.istore_n 3, 1) := by decide +kernel
theorem dX3_placeFor_6 : decode cX3_placeFor 6 = .ok (.iload_n 3, 1) := by decide +kernel
theorem dX3_placeFor_7 : decode cX3_placeFor 7 = .ok (.ldc 53, 2) := by decide +kernel
theorem dX3_placeFor_9 : decode cX3_placeFor 9 = .ok (.imul, 1) := by decide +kernel
theorem dX3_placeFor_10 : decode cX3_placeFor 10 = .ok (.bipush 22, 2) := by decide +kernel
theorem dX3_placeFor_12 : decode cX3_placeFor 12 = .ok (.iushr, 1) := by decide +kernel
theorem dX3_placeFor_13 : decode cX3_placeFor 13 = .ok (.istore 4, 2) := by decide +kernel
theorem dX3_placeFor_15 : decode cX3_placeFor 15 = .ok (.iconst 0, 1) := by decide +kernel
theorem dX3_placeFor_16 : decode cX3_placeFor 16 = .ok (.istore 5, 2) := by decide +kernel
theorem dX3_placeFor_18 : decode cX3_placeFor 18 = .ok (.iload 5, 2) := by decide +kernel
theorem dX3_placeFor_20 : decode cX3_placeFor 20 = .ok (.sipush 1024, 3) := by decide +kernel
theorem dX3_placeFor_23 : decode cX3_placeFor 23 = .ok (.if_icmp .ge 45, 3) := by decide +kernel
theorem dX3_placeFor_68 : decode cX3_placeFor 68 = .ok (.iconst (-1), 1) := by decide +kernel
theorem dX3_placeFor_69 : decode cX3_placeFor 69 = .ok (.ireturn, 1) := by decide +kernel
theorem dX3_placeFor_26 : decode cX3_placeFor 26 = .ok (.iload 4, 2) := by decide +kernel
theorem dX3_placeFor_28 : decode cX3_placeFor 28 = .ok (.iload 5, 2) := by decide +kernel
theorem dX3_placeFor_30 : decode cX3_placeFor 30 = .ok (.iadd, 1) := by decide +kernel
theorem dX3_placeFor_31 : decode cX3_placeFor 31 = .ok (.sipush 1023, 3) := by decide +kernel
theorem dX3_placeFor_34 : decode cX3_placeFor 34 = .ok (.iand, 1) := by decide +kernel
theorem dX3_placeFor_35 : decode cX3_placeFor 35 = .ok (.istore 6, 2) := by decide +kernel
theorem dX3_placeFor_37 : decode cX3_placeFor 37 = .ok (.aload_n 0, 1) := by decide +kernel
theorem dX3_placeFor_38 : decode cX3_placeFor 38 = .ok (.getfield 15, 3) := by decide +kernel
theorem dX3_placeFor_41 : decode cX3_placeFor 41 = .ok (.iload 6, 2) := by decide +kernel
theorem dX3_placeFor_43 : decode cX3_placeFor 43 = .ok (.iaload, 1) := by decide +kernel
theorem dX3_placeFor_44 : decode cX3_placeFor 44 = .ok (.iconst (-1), 1) := by decide +kernel
theorem dX3_placeFor_45 : decode cX3_placeFor 45 = .ok (.if_icmp .eq 14, 3) := by decide +kernel
theorem dX3_placeFor_59 : decode cX3_placeFor 59 = .ok (.iload 6, 2) := by decide +kernel
theorem dX3_placeFor_61 : decode cX3_placeFor 61 = .ok (.ireturn, 1) := by decide +kernel
theorem dX3_placeFor_48 : decode cX3_placeFor 48 = .ok (.aload_n 0, 1) := by decide +kernel
theorem dX3_placeFor_49 : decode cX3_placeFor 49 = .ok (.getfield 11, 3) := by decide +kernel
theorem dX3_placeFor_52 : decode cX3_placeFor 52 = .ok (.iload 6, 2) := by decide +kernel
theorem dX3_placeFor_54 : decode cX3_placeFor 54 = .ok (.iaload, 1) := by decide +kernel
theorem dX3_placeFor_55 : decode cX3_placeFor 55 = .ok (.iload_n 3, 1) := by decide +kernel
theorem dX3_placeFor_56 : decode cX3_placeFor 56 = .ok (.if_icmp .ne 6, 3) := by decide +kernel
theorem dX3_placeFor_62 : decode cX3_placeFor 62 = .ok (.iinc 5 1, 3) := by decide +kernel
theorem dX3_placeFor_65 : decode cX3_placeFor 65 = .ok (.goto (-47), 3) := by decide +kernel
theorem dX3_of_0 : decode cX3_of 0 = .ok (.aload_n 0, 1) := by decide +kernel
theorem dX3_of_1 : decode cX3_of 1 = .ok (.getfield 24, 3) := by decide +kernel
theorem dX3_of_4 : decode cX3_of 4 = .ok (.ifCond .ne 7, 3) := by decide +kernel
theorem dX3_of_11 : decode cX3_of 11 = .ok (.aload_n 0, 1) := by decide +kernel
theorem dX3_of_12 : decode cX3_of 12 = .ok (.iload_n 1, 1) := by decide +kernel
theorem dX3_of_13 : decode cX3_of 13 = .ok (.iload_n 2, 1) := by decide +kernel
set_option maxRecDepth 20000 in
theorem ggX3_of_X3_placeFor : GoodIn wsX3_of wsX3_placeFor := goodIn_r _ [7, 8, 2, 9, 10, 11, 6, 12, 19, 20, 21] rfl (by decide +kernel)
set_option maxRecDepth 20000 in
theorem gX3_of_X3_placeFor : GoodIn wsX3_of (wsV RX3 28 RX3 yX3_placeFor wsX3_placeFor) := goodIn_app (goodIn_r _ [3, 4, 5, 6] rfl (by decide +kernel)) ggX3_of_X3_placeFor
theorem dX3_of_14 : decode cX3_of 14 = .ok (.invokevirtual 28, 3) := by decide +kernel
theorem dX3_of_17 : decode cX3_of 17 = .ok (.istore_n 3, 1) := by decide +kernel
theorem dX3_of_18 : decode cX3_of 18 = .ok (.iload_n 3, 1) := by decide +kernel
theorem dX3_of_19 : decode cX3_of 19 = .ok (.iconst (-1), 1) := by decide +kernel
theorem dX3_of_20 : decode cX3_of 20 = .ok (.if_icmp .eq 20, 3) := by decide +kernel
theorem dX3_of_40 : decode cX3_of 40 = .ok (.iload_n 1, 1) := by decide +kernel
set_option maxRecDepth 20000 in
theorem ggX3_of_X3_sortOf : GoodIn wsX3_of wsX3_sortOf := goodIn_r _ [15, 16, 17, 6, 18] rfl (by decide +kernel)
set_option maxRecDepth 20000 in
theorem gX3_of_X3_sortOf : GoodIn wsX3_of (va_wsS RX3 35 yX3_sortOf wsX3_sortOf) := goodIn_app (goodIn_r _ [13, 14, 6] rfl (by decide +kernel)) ggX3_of_X3_sortOf
theorem dX3_of_41 : decode cX3_of 41 = .ok (.invokestatic 35, 3) := by decide +kernel
theorem dX3_of_44 : decode cX3_of 44 = .ok (.istore 4, 2) := by decide +kernel
theorem dX3_of_46 : decode cX3_of 46 = .ok (.iload_n 2, 1) := by decide +kernel
theorem dX3_of_47 : decode cX3_of 47 = .ok (.invokestatic 35, 3) := by decide +kernel
theorem dX3_of_50 : decode cX3_of 50 = .ok (.istore 5, 2) := by decide +kernel
theorem dX3_of_52 : decode cX3_of 52 = .ok (.iload 4, 2) := by decide +kernel
theorem dX3_of_54 : decode cX3_of 54 = .ok (.iload 5, 2) := by decide +kernel
theorem dX3_of_56 : decode cX3_of 56 = .ok (.if_icmp .ne 7, 3) := by decide +kernel
theorem dX3_of_63 : decode cX3_of 63 = .ok (.bipush 9, 2) := by decide +kernel
theorem dX3_of_65 : decode cX3_of 65 = .ok (.istore 6, 2) := by decide +kernel
theorem dX3_of_67 : decode cX3_of 67 = .ok (.iload 6, 2) := by decide +kernel
theorem dX3_of_69 : decode cX3_of 69 = .ok (.iload 4, 2) := by decide +kernel
theorem dX3_of_71 : decode cX3_of 71 = .ok (.ifCond .ne 8, 3) := by decide +kernel
theorem dX3_of_79 : decode cX3_of 79 = .ok (.iconst 0, 1) := by decide +kernel
theorem dX3_of_80 : decode cX3_of 80 = .ok (.iadd, 1) := by decide +kernel
theorem dX3_of_81 : decode cX3_of 81 = .ok (.istore 6, 2) := by decide +kernel
theorem dX3_of_83 : decode cX3_of 83 = .ok (.iload 6, 2) := by decide +kernel
theorem dX3_of_85 : decode cX3_of 85 = .ok (.iload 5, 2) := by decide +kernel
theorem dX3_of_87 : decode cX3_of 87 = .ok (.ifCond .ne 8, 3) := by decide +kernel
theorem dX3_of_95 : decode cX3_of 95 = .ok (.iconst 0, 1) := by decide +kernel
theorem dX3_of_96 : decode cX3_of 96 = .ok (.iadd, 1) := by decide +kernel
theorem dX3_of_97 : decode cX3_of 97 = .ok (.ireturn, 1) := by decide +kernel
theorem dX3_of_90 : decode cX3_of 90 = .ok (.bipush 30, 2) := by decide +kernel
theorem dX3_of_92 : decode cX3_of 92 = .ok (.goto 4, 3) := by decide +kernel
theorem dX3_of_74 : decode cX3_of 74 = .ok (.bipush 30, 2) := by decide +kernel
theorem dX3_of_76 : decode cX3_of 76 = .ok (.goto 4, 3) := by decide +kernel
theorem dX3_of_59 : decode cX3_of 59 = .ok (.iconst 4, 1) := by decide +kernel
theorem dX3_of_60 : decode cX3_of 60 = .ok (.goto 5, 3) := by decide +kernel
theorem dX3_of_23 : decode cX3_of 23 = .ok (.aload_n 0, 1) := by decide +kernel
theorem dX3_of_24 : decode cX3_of 24 = .ok (.getfield 15, 3) := by decide +kernel
theorem dX3_of_27 : decode cX3_of 27 = .ok (.iload_n 3, 1) := by decide +kernel
theorem dX3_of_28 : decode cX3_of 28 = .ok (.iaload, 1) := by decide +kernel
theorem dX3_of_29 : decode cX3_of 29 = .ok (.iconst (-1), 1) := by decide +kernel
theorem dX3_of_30 : decode cX3_of 30 = .ok (.if_icmp .eq 10, 3) := by decide +kernel
theorem dX3_of_33 : decode cX3_of 33 = .ok (.aload_n 0, 1) := by decide +kernel
theorem dX3_of_34 : decode cX3_of 34 = .ok (.getfield 15, 3) := by decide +kernel
theorem dX3_of_37 : decode cX3_of 37 = .ok (.iload_n 3, 1) := by decide +kernel
theorem dX3_of_38 : decode cX3_of 38 = .ok (.iaload, 1) := by decide +kernel
theorem dX3_of_39 : decode cX3_of 39 = .ok (.ireturn, 1) := by decide +kernel
theorem dX3_of_7 : decode cX3_of 7 = .ok (.iconst (-1), 1) := by decide +kernel
theorem dX3_of_8 : decode cX3_of 8 = .ok (.goto 9, 3) := by decide +kernel
theorem dX3_ofText_0 : decode cX3_ofText 0 = .ok (.iconst 0, 1) := by decide +kernel
theorem dX3_ofText_1 : decode cX3_ofText 1 = .ok (.istore_n 2, 1) := by decide +kernel
theorem dX3_ofText_2 : decode cX3_ofText 2 = .ok (.bipush 32, 2) := by decide +kernel
theorem dX3_ofText_4 : decode cX3_ofText 4 = .ok (.istore_n 3, 1) := by decide +kernel
theorem dX3_ofText_5 : decode cX3_ofText 5 = .ok (.iconst 0, 1) := by decide +kernel
theorem dX3_ofText_6 : decode cX3_ofText 6 = .ok (.istore 4, 2) := by decide +kernel
theorem dX3_ofText_8 : decode cX3_ofText 8 = .ok (.iload 4, 2) := by decide +kernel
theorem dX3_ofText_10 : decode cX3_ofText 10 = .ok (.aload_n 1, 1) := by decide +kernel
set_option maxRecDepth 20000 in
theorem ggX3_ofText_X5_length : GoodIn wsX3_ofText wsX5_length := goodIn_r _ [5, 6, 34, 35] rfl (by decide +kernel)
set_option maxRecDepth 20000 in
theorem gX3_ofText_X5_length : GoodIn wsX3_ofText (wsV RX3 39 RX5 yX5_length wsX5_length) := goodIn_app (goodIn_r _ [1, 2, 3, 4] rfl (by decide +kernel)) ggX3_ofText_X5_length
theorem dX3_ofText_11 : decode cX3_ofText 11 = .ok (.invokevirtual 39, 3) := by decide +kernel
theorem dX3_ofText_14 : decode cX3_ofText 14 = .ok (.if_icmp .ge 30, 3) := by decide +kernel
theorem dX3_ofText_44 : decode cX3_ofText 44 = .ok (.iload_n 2, 1) := by decide +kernel
theorem dX3_ofText_45 : decode cX3_ofText 45 = .ok (.aload_n 0, 1) := by decide +kernel
theorem dX3_ofText_46 : decode cX3_ofText 46 = .ok (.iload_n 3, 1) := by decide +kernel
theorem dX3_ofText_47 : decode cX3_ofText 47 = .ok (.bipush 32, 2) := by decide +kernel
set_option maxRecDepth 20000 in
theorem ggX3_ofText_X3_of : GoodIn wsX3_ofText wsX3_of := goodIn_r _ [16, 17, 18, 19, 20, 21, 15, 22, 23, 24, 25, 26, 27, 28, 29, 30, 31, 32, 33, 36, 37, 38] rfl (by decide +kernel)
set_option maxRecDepth 20000 in
theorem gX3_ofText_X3_of : GoodIn wsX3_ofText (wsV RX3 47 RX3 yX3_of wsX3_of) := goodIn_app (goodIn_r _ [12, 13, 14, 15] rfl (by decide +kernel)) ggX3_ofText_X3_of
theorem dX3_ofText_49 : decode cX3_ofText 49 = .ok (.invokevirtual 47, 3) := by decide +kernel
theorem dX3_ofText_52 : decode cX3_ofText 52 = .ok (.iadd, 1) := by decide +kernel
theorem dX3_ofText_53 : decode cX3_ofText 53 = .ok (.ireturn, 1) := by decide +kernel
theorem dX3_ofText_17 : decode cX3_ofText 17 = .ok (.aload_n 1, 1) := by decide +kernel
theorem dX3_ofText_18 : decode cX3_ofText 18 = .ok (.iload 4, 2) := by decide +kernel
set_option maxRecDepth 20000 in
theorem ggX3_ofText_X5_get : GoodIn wsX3_ofText wsX5_get := goodIn_r _ [10, 6, 11, 34, 35] rfl (by decide +kernel)
set_option maxRecDepth 20000 in
theorem gX3_ofText_X5_get : GoodIn wsX3_ofText (wsV RX3 44 RX5 yX5_get wsX5_get) := goodIn_app (goodIn_r _ [7, 8, 9, 4] rfl (by decide +kernel)) ggX3_ofText_X5_get
theorem dX3_ofText_20 : decode cX3_ofText 20 = .ok (.invokevirtual 44, 3) := by decide +kernel
theorem dX3_ofText_23 : decode cX3_ofText 23 = .ok (.istore 5, 2) := by decide +kernel
theorem dX3_ofText_25 : decode cX3_ofText 25 = .ok (.iload_n 2, 1) := by decide +kernel
theorem dX3_ofText_26 : decode cX3_ofText 26 = .ok (.aload_n 0, 1) := by decide +kernel
theorem dX3_ofText_27 : decode cX3_ofText 27 = .ok (.iload_n 3, 1) := by decide +kernel
theorem dX3_ofText_28 : decode cX3_ofText 28 = .ok (.iload 5, 2) := by decide +kernel
theorem dX3_ofText_30 : decode cX3_ofText 30 = .ok (.invokevirtual 47, 3) := by decide +kernel
theorem dX3_ofText_33 : decode cX3_ofText 33 = .ok (.iadd, 1) := by decide +kernel
theorem dX3_ofText_34 : decode cX3_ofText 34 = .ok (.istore_n 2, 1) := by decide +kernel
theorem dX3_ofText_35 : decode cX3_ofText 35 = .ok (.iload 5, 2) := by decide +kernel
theorem dX3_ofText_37 : decode cX3_ofText 37 = .ok (.istore_n 3, 1) := by decide +kernel
theorem dX3_ofText_38 : decode cX3_ofText 38 = .ok (.iinc 4 1, 3) := by decide +kernel
theorem dX3_ofText_41 : decode cX3_ofText 41 = .ok (.goto (-33), 3) := by decide +kernel
theorem dX0_length_0 : decode cX0_length 0 = .ok (.aload_n 0, 1) := by decide +kernel
theorem dX0_length_1 : decode cX0_length 1 = .ok (.getfield 22, 3) := by decide +kernel
theorem dX0_length_4 : decode cX0_length 4 = .ok (.ireturn, 1) := by decide +kernel
