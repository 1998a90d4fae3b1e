theorem dX9_find_0 : decode cX9_find 0 = .ok (.aload_n 0, 1) := by decide +kernel
theorem dX9_find_1 : decode cX9_find 1 = .ok (.getfield 26, 3) := by decide +kernel
theorem dX9_find_4 : decode cX9_find 4 = .ok (.iconst (-1), 1) := by decide +kernel
set_option maxRecDepth 20000 in
theorem ggX9_find_J7_fill_53178 : GoodIn wsX9_find wsJ7_fill_53178 := goodIn_r _ [9] rfl (by decide +kernel)
set_option maxRecDepth 20000 in
theorem gX9_find_J7_fill_53178 : GoodIn wsX9_find (va_wsS RX9 53 yJ7_fill_53178 wsJ7_fill_53178) := goodIn_app (goodIn_r _ [6, 7, 8] rfl (by decide +kernel)) ggX9_find_J7_fill_53178
theorem dX9_find_5 : decode cX9_find 5 = .ok (.invokestatic 53, 3) := by decide +kernel
theorem dX9_find_8 : decode cX9_find 8 = .ok (.aload_n 0, 1) := by decide +kernel
theorem dX9_find_9 : decode cX9_find 9 = .ok (.getfield 45, 3) := by decide +kernel
set_option maxRecDepth 20000 in
theorem ggX9_find_X4_length : GoodIn wsX9_find wsX4_length := goodIn_r _ [14, 15, 183, 184, 185, 186] rfl (by decide +kernel)
set_option maxRecDepth 20000 in
theorem gX9_find_X4_length : GoodIn wsX9_find (wsV RX9 63 RX4 yX4_length wsX4_length) := goodIn_app (goodIn_r _ [10, 11, 12, 13] rfl (by decide +kernel)) ggX9_find_X4_length
theorem dX9_find_12 : decode cX9_find 12 = .ok (.invokevirtual 63, 3) := by decide +kernel
theorem dX9_find_15 : decode cX9_find 15 = .ok (.istore_n 3, 1) := by decide +kernel
theorem dX9_find_16 : decode cX9_find 16 = .ok (.iconst 0, 1) := by decide +kernel
theorem dX9_find_17 : decode cX9_find 17 = .ok (.istore 4, 2) := by decide +kernel
theorem dX9_find_19 : decode cX9_find 19 = .ok (.iload 4, 2) := by decide +kernel
theorem dX9_find_21 : decode cX9_find 21 = .ok (.iload_n 3, 1) := by decide +kernel
theorem dX9_find_22 : decode cX9_find 22 = .ok (.if_icmp .ge 206, 3) := by decide +kernel
theorem dX9_find_228 : decode cX9_find 228 = .ok (.return_, 1) := by decide +kernel
theorem dX9_keepFound_0 : decode cX9_keepFound 0 = .ok (.aload_n 0, 1) := by decide +kernel
theorem dX9_keepFound_1 : decode cX9_keepFound 1 = .ok (.iconst 0, 1) := by decide +kernel
theorem dX9_keepFound_2 : decode cX9_keepFound 2 = .ok (.putfield 59, 3) := by decide +kernel
theorem dX9_keepFound_5 : decode cX9_keepFound 5 = .ok (.iconst 0, 1) := by decide +kernel
theorem dX9_keepFound_6 : decode cX9_keepFound 6 = .ok (.istore_n 1, 1) := by decide +kernel
theorem dX9_keepFound_7 : decode cX9_keepFound 7 = .ok (.iload_n 1, 1) := by decide +kernel
theorem dX9_keepFound_8 : decode cX9_keepFound 8 = .ok (.sipush 258, 3) := by decide +kernel
theorem dX9_keepFound_11 : decode cX9_keepFound 11 = .ok (.if_icmp .ge 95, 3) := by decide +kernel
theorem dX9_keepFound_106 : decode cX9_keepFound 106 = .ok (.aload_n 0, 1) := by decide +kernel
theorem dX9_keepFound_107 : decode cX9_keepFound 107 = .ok (.getfield 59, 3) := by decide +kernel
theorem dX9_keepFound_110 : decode cX9_keepFound 110 = .ok (.ireturn, 1) := by decide +kernel
theorem dX9_keepFound_14 : decode cX9_keepFound 14 = .ok (.aload_n 0, 1) := by decide +kernel
theorem dX9_keepFound_15 : decode cX9_keepFound 15 = .ok (.getfield 26, 3) := by decide +kernel
theorem dX9_keepFound_18 : decode cX9_keepFound 18 = .ok (.iload_n 1, 1) := by decide +kernel
theorem dX9_keepFound_19 : decode cX9_keepFound 19 = .ok (.iaload, 1) := by decide +kernel
theorem dX9_keepFound_20 : decode cX9_keepFound 20 = .ok (.iconst (-1), 1) := by decide +kernel
theorem dX9_keepFound_21 : decode cX9_keepFound 21 = .ok (.if_icmp .eq 79, 3) := by decide +kernel
theorem dX9_keepFound_100 : decode cX9_keepFound 100 = .ok (.iinc 1 1, 3) := by decide +kernel
theorem dX9_keepFound_103 : decode cX9_keepFound 103 = .ok (.goto (-96), 3) := by decide +kernel
theorem dX9_cheapest_0 : decode cX9_cheapest 0 = .ok (.iconst (-1), 1) := by decide +kernel
theorem dX9_cheapest_1 : decode cX9_cheapest 1 = .ok (.istore_n 1, 1) := by decide +kernel
theorem dX9_cheapest_2 : decode cX9_cheapest 2 = .ok (.iconst 0, 1) := by decide +kernel
theorem dX9_cheapest_3 : decode cX9_cheapest 3 = .ok (.istore_n 2, 1) := by decide +kernel
theorem dX9_cheapest_4 : decode cX9_cheapest 4 = .ok (.iload_n 2, 1) := by decide +kernel
theorem dX9_cheapest_5 : decode cX9_cheapest 5 = .ok (.sipush 258, 3) := by decide +kernel
theorem dX9_cheapest_8 : decode cX9_cheapest 8 = .ok (.if_icmp .ge 41, 3) := by decide +kernel
theorem dX9_cheapest_49 : decode cX9_cheapest 49 = .ok (.iload_n 1, 1) := by decide +kernel
theorem dX9_cheapest_50 : decode cX9_cheapest 50 = .ok (.ireturn, 1) := by decide +kernel
theorem dX9_cheapest_11 : decode cX9_cheapest 11 = .ok (.aload_n 0, 1) := by decide +kernel
theorem dX9_cheapest_12 : decode cX9_cheapest 12 = .ok (.getfield 26, 3) := by decide +kernel
theorem dX9_cheapest_15 : decode cX9_cheapest 15 = .ok (.iload_n 2, 1) := by decide +kernel
theorem dX9_cheapest_16 : decode cX9_cheapest 16 = .ok (.iaload, 1) := by decide +kernel
theorem dX9_cheapest_17 : decode cX9_cheapest 17 = .ok (.iconst (-1), 1) := by decide +kernel
theorem dX9_cheapest_18 : decode cX9_cheapest 18 = .ok (.if_icmp .eq 25, 3) := by decide +kernel
theorem dX9_cheapest_43 : decode cX9_cheapest 43 = .ok (.iinc 2 1, 3) := by decide +kernel
theorem dX9_cheapest_46 : decode cX9_cheapest 46 = .ok (.goto (-42), 3) := by decide +kernel
theorem dX3_placeFor_0 : decode cX3_placeFor 0 = .ok (.iload_n 1, 1) := by decide +kernel
theorem dX3_placeFor_1 : decode cX3_placeFor 1 = .ok (.iload_n 2, 1) := by decide +kernel
set_option maxRecDepth 20000 in
theorem ggX3_placeFor_X3_pairOf : GoodIn wsX3_placeFor wsX3_pairOf := goodIn_r _ [7] rfl (by decide +kernel)
set_option maxRecDepth 20000 in
theorem gX3_placeFor_X3_pairOf : GoodIn wsX3_placeFor (va_wsS RX3 32 yX3_pairOf wsX3_pairOf) := goodIn_app (goodIn_r _ [4, 5, 6] rfl (by decide +kernel)) ggX3_placeFor_X3_pairOf
theorem dX3_placeFor_2 : decode cX3_placeFor 2 = .ok (.invokestatic 32, 3) := by decide +kernel
theorem dX3_placeFor_5 : decode cX3_placeFor 5 = .ok (.istore_n 3, 1) := by decide +kernel
theorem dX3_placeFor_6 : decode cX3_placeFor 6 = .ok (.iload_n 3, 1) := by decide +kernel
theorem dX3_placeFor_7 : decode cX3_placeFor 7 = .ok (.ldc 53, 2) := by decide +kernel
theorem dX3_placeFor_9 : decode cX3_placeFor 9 = .ok (.imul, 1) := by decide +kernel
theorem dX3_placeFor_10 : decode cX3_placeFor 10 = .ok (.bipush 22, 2) := by decide +kernel
theorem dX3_placeFor_12 : decode cX3_placeFor 12 = .ok (.iushr, 1) := by decide +kernel
theorem dX3_placeFor_13 : decode cX3_placeFor 13 = .ok (.istore 4, 2) := by decide +kernel
theorem dX3_placeFor_15 : decode cX3_placeFor 15 = .ok (.iconst 0, 1) := by decide +kernel
theorem dX3_placeFor_16 : decode cX3_placeFor 16 = .ok (.istore 5, 2) := by decide +kernel
theorem dX3_placeFor_18 : decode cX3_placeFor 18 = .ok (.iload 5, 2) := by decide +kernel
theorem dX3_placeFor_20 : decode cX3_placeFor 20 = .ok (.sipush 1024, 3) := by decide +kernel
theorem dX3_placeFor_23 : decode cX3_placeFor 23 = .ok (.if_icmp .ge 45, 3) := by decide +kernel
theorem dX3_placeFor_26 : decode cX3_placeFor 26 = .ok (.iload 4, 2) := by decide +kernel
theorem dX3_placeFor_28 : decode cX3_placeFor 28 = .ok (.iload 5, 2) := by decide +kernel
theorem dX3_placeFor_30 : decode cX3_placeFor 30 = .ok (.iadd, 1) := by decide +kernel
theorem dX3_placeFor_31 : decode cX3_placeFor 31 = .ok (.sipush 1023, 3) := by decide +kernel
theorem dX3_placeFor_34 : decode cX3_placeFor 34 = .ok (.iand, 1) := by decide +kernel
theorem dX3_placeFor_35 : decode cX3_placeFor 35 = .ok (.istore 6, 2) := by decide +kernel
theorem dX3_placeFor_37 : decode cX3_placeFor 37 = .ok (.aload_n 0, 1) := by decide +kernel
theorem dX3_placeFor_38 : decode cX3_placeFor 38 = .ok (.getfield 15, 3) := by decide +kernel
theorem dX3_placeFor_41 : decode cX3_placeFor 41 = .ok (.iload 6, 2) := by decide +kernel
theorem dX3_placeFor_43 : decode cX3_placeFor 43 = .ok (.iaload, 1) := by decide +kernel
theorem dX3_placeFor_44 : decode cX3_placeFor 44 = .ok (.iconst (-1), 1) := by decide +kernel
theorem dX3_placeFor_45 : decode cX3_placeFor 45 = .ok (.if_icmp .eq 14, 3) := by decide +kernel
theorem dX3_placeFor_59 : decode cX3_placeFor 59 = .ok (.iload 6, 2) := by decide +kernel
theorem dX3_placeFor_61 : decode cX3_placeFor 61 = .ok (.ireturn, 1) := by decide +kernel
theorem dX3_tell_0 : decode cX3_tell 0 = .ok (.aload_n 0, 1) := by decide +kernel
theorem dX3_tell_1 : decode cX3_tell 1 = .ok (.iload_n 1, 1) := by decide +kernel
theorem dX3_tell_2 : decode cX3_tell 2 = .ok (.iload_n 2, 1) := by decide +kernel
set_option maxRecDepth 20000 in
theorem ggX3_tell_X3_placeFor : GoodIn wsX3_tell wsX3_placeFor := goodIn_r _ [8, 9, 1, 3, 10, 11, 7, 12, 13, 14, 15] rfl (by decide +kernel)
set_option maxRecDepth 20000 in
theorem gX3_tell_X3_placeFor : GoodIn wsX3_tell (wsV RX3 28 RX3 yX3_placeFor wsX3_placeFor) := goodIn_app (goodIn_r _ [4, 5, 6, 7] rfl (by decide +kernel)) ggX3_tell_X3_placeFor
theorem dX3_tell_3 : decode cX3_tell 3 = .ok (.invokevirtual 28, 3) := by decide +kernel
theorem dX3_tell_6 : decode cX3_tell 6 = .ok (.istore 4, 2) := by decide +kernel
theorem dX3_tell_8 : decode cX3_tell 8 = .ok (.iload 4, 2) := by decide +kernel
theorem dX3_tell_10 : decode cX3_tell 10 = .ok (.iconst (-1), 1) := by decide +kernel
theorem dX3_tell_11 : decode cX3_tell 11 = .ok (.if_icmp .eq 14, 3) := by decide +kernel
theorem dX3_tell_14 : decode cX3_tell 14 = .ok (.iload_n 3, 1) := by decide +kernel
theorem dX3_tell_15 : decode cX3_tell 15 = .ok (.ifCond .lt 10, 3) := by decide +kernel
theorem dX3_tell_25 : decode cX3_tell 25 = .ok (.iconst 0, 1) := by decide +kernel
theorem dX3_tell_26 : decode cX3_tell 26 = .ok (.ireturn, 1) := by decide +kernel
theorem dX3_tell_18 : decode cX3_tell 18 = .ok (.iload_n 3, 1) := by decide +kernel
theorem dX3_tell_19 : decode cX3_tell 19 = .ok (.sipush 200, 3) := by decide +kernel
theorem dX3_tell_22 : decode cX3_tell 22 = .ok (.if_icmp .le 5, 3) := by decide +kernel
theorem dX3_tell_27 : decode cX3_tell 27 = .ok (.aload_n 0, 1) := by decide +kernel
theorem dX3_tell_28 : decode cX3_tell 28 = .ok (.getfield 15, 3) := by decide +kernel
theorem dX3_tell_31 : decode cX3_tell 31 = .ok (.iload 4, 2) := by decide +kernel
theorem dX3_tell_33 : decode cX3_tell 33 = .ok (.iaload, 1) := by decide +kernel
theorem dX3_tell_34 : decode cX3_tell 34 = .ok (.iconst (-1), 1) := by decide +kernel
theorem dX3_tell_35 : decode cX3_tell 35 = .ok (.if_icmp .ne 37, 3) := by decide +kernel
theorem dX3_tell_38 : decode cX3_tell 38 = .ok (.aload_n 0, 1) := by decide +kernel
theorem dX3_tell_39 : decode cX3_tell 39 = .ok (.getfield 24, 3) := by decide +kernel
theorem dX3_tell_42 : decode cX3_tell 42 = .ok (.sipush 300, 3) := by decide +kernel
theorem dX3_tell_45 : decode cX3_tell 45 = .ok (.if_icmp .lt 5, 3) := by decide +kernel
theorem dX3_tell_50 : decode cX3_tell 50 = .ok (.aload_n 0, 1) := by decide +kernel
theorem dX3_tell_51 : decode cX3_tell 51 = .ok (.getfield 11, 3) := by decide +kernel
theorem dX3_tell_54 : decode cX3_tell 54 = .ok (.iload 4, 2) := by decide +kernel
theorem dX3_tell_56 : decode cX3_tell 56 = .ok (.iload_n 1, 1) := by decide +kernel
theorem dX3_tell_57 : decode cX3_tell 57 = .ok (.iload_n 2, 1) := by decide +kernel
set_option maxRecDepth 20000 in
theorem ggX3_tell_X3_pairOf : GoodIn wsX3_tell wsX3_pairOf := goodIn_r _ [12] rfl (by decide +kernel)
set_option maxRecDepth 20000 in
theorem gX3_tell_X3_pairOf : GoodIn wsX3_tell (va_wsS RX3 32 yX3_pairOf wsX3_pairOf) := goodIn_app (goodIn_r _ [10, 11, 7] rfl (by decide +kernel)) ggX3_tell_X3_pairOf
theorem dX3_tell_58 : decode cX3_tell 58 = .ok (.invokestatic 32, 3) := by decide +kernel
theorem dX3_tell_61 : decode cX3_tell 61 = .ok (.iastore, 1) := by decide +kernel
theorem dX3_tell_62 : decode cX3_tell 62 = .ok (.aload_n 0, 1) := by decide +kernel
theorem dX3_tell_63 : decode cX3_tell 63 = .ok (.dup, 1) := by decide +kernel
theorem dX3_tell_64 : decode cX3_tell 64 = .ok (.getfield 24, 3) := by decide +kernel
theorem dX3_tell_67 : decode cX3_tell 67 = .ok (.iconst 1, 1) := by decide +kernel
theorem dX3_tell_68 : decode cX3_tell 68 = .ok (.iadd, 1) := by decide +kernel
theorem dX3_tell_69 : decode cX3_tell 69 = .ok (.putfield 24, 3) := by decide +kernel
theorem dX3_tell_72 : decode cX3_tell 72 = .ok (.aload_n 0, 1) := by decide +kernel
theorem dX3_tell_73 : decode cX3_tell 73 = .ok (.getfield 15, 3) := by decide +kernel
theorem dX3_tell_76 : decode cX3_tell 76 = .ok (.iload 4, 2) := by decide +kernel
theorem dX3_tell_78 : decode cX3_tell 78 = .ok (.iload_n 3, 1) := by decide +kernel
theorem dX3_tell_79 : decode cX3_tell 79 = .ok (.iastore, 1) := by decide +kernel
theorem dX3_tell_80 : decode cX3_tell 80 = .ok (.iconst 1, 1) := by decide +kernel
theorem dX3_tell_81 : decode cX3_tell 81 = .ok (.ireturn, 1) := by decide +kernel
theorem dX10_length_0 : decode cX10_length 0 = .ok (.aload_n 0, 1) := by decide +kernel
theorem dX10_length_1 : decode cX10_length 1 = .ok (.getfield 27, 3) := by decide +kernel
theorem dX10_length_4 : decode cX10_length 4 = .ok (.ireturn, 1) := by decide +kernel
theorem dX2_toldCode_0 : decode cX2_toldCode 0 = .ok (.iload_n 1, 1) := by decide +kernel
theorem dX2_toldCode_1 : decode cX2_toldCode 1 = .ok (.iconst 4, 1) := by decide +kernel
theorem dX2_toldCode_2 : decode cX2_toldCode 2 = .ok (.if_icmp .ne 10, 3) := by decide +kernel
theorem dX2_toldCode_5 : decode cX2_toldCode 5 = .ok (.aload_n 0, 1) := by decide +kernel
theorem dX2_toldCode_6 : decode cX2_toldCode 6 = .ok (.getfield 12, 3) := by decide +kernel
theorem dX2_toldCode_9 : decode cX2_toldCode 9 = .ok (.goto 16, 3) := by decide +kernel
theorem dX2_toldCode_25 : decode cX2_toldCode 25 = .ok (.areturn, 1) := by decide +kernel
theorem dX2_toldCode_12 : decode cX2_toldCode 12 = .ok (.iload_n 1, 1) := by decide +kernel
theorem dX2_toldCode_13 : decode cX2_toldCode 13 = .ok (.iconst 5, 1) := by decide +kernel
theorem dX2_toldCode_14 : decode cX2_toldCode 14 = .ok (.if_icmp .ne 10, 3) := by decide +kernel
theorem dX2_toldCode_17 : decode cX2_toldCode 17 = .ok (.aload_n 0, 1) := by decide +kernel
theorem dX2_toldCode_18 : decode cX2_toldCode 18 = .ok (.getfield 18, 3) := by decide +kernel
theorem dX2_toldCode_21 : decode cX2_toldCode 21 = .ok (.goto 4, 3) := by decide +kernel
theorem dX2_toldCode_24 : decode cX2_toldCode 24 = .ok (.aconst_null, 1) := by decide +kernel
theorem dX2_lengthOf_0 : decode cX2_lengthOf 0 = .ok (.aload_n 0, 1) := by decide +kernel
theorem dX2_lengthOf_1 : decode cX2_lengthOf 1 = .ok (.iload_n 1, 1) := by decide +kernel
set_option maxRecDepth 20000 in
theorem ggX2_lengthOf_X2_toldCode : GoodIn wsX2_lengthOf wsX2_toldCode := goodIn_r _ [5, 6, 7, 14, 15] rfl (by decide +kernel)
set_option maxRecDepth 20000 in
theorem gX2_lengthOf_X2_toldCode : GoodIn wsX2_lengthOf (wsV RX2 21 RX2 yX2_toldCode wsX2_toldCode) := goodIn_app (goodIn_r _ [1, 2, 3, 4] rfl (by decide +kernel)) ggX2_lengthOf_X2_toldCode
theorem dX2_lengthOf_2 : decode cX2_lengthOf 2 = .ok (.invokevirtual 21, 3) := by decide +kernel
theorem dX2_lengthOf_5 : decode cX2_lengthOf 5 = .ok (.astore_n 2, 1) := by decide +kernel
theorem dX2_lengthOf_6 : decode cX2_lengthOf 6 = .ok (.aload_n 2, 1) := by decide +kernel
theorem dX2_lengthOf_7 : decode cX2_lengthOf 7 = .ok (.ifnonnull 7, 3) := by decide +kernel
theorem dX2_lengthOf_14 : decode cX2_lengthOf 14 = .ok (.aload_n 2, 1) := by decide +kernel
set_option maxRecDepth 20000 in
theorem ggX2_lengthOf_X10_length : GoodIn wsX2_lengthOf wsX10_length := goodIn_r _ [12, 13, 16, 17, 18, 19] rfl (by decide +kernel)
set_option maxRecDepth 20000 in
theorem gX2_lengthOf_X10_length : GoodIn wsX2_lengthOf (wsV RX2 25 RX10 yX10_length wsX10_length) := goodIn_app (goodIn_r _ [8, 9, 10, 11] rfl (by decide +kernel)) ggX2_lengthOf_X10_length
theorem dX2_lengthOf_15 : decode cX2_lengthOf 15 = .ok (.invokevirtual 25, 3) := by decide +kernel
theorem dX2_lengthOf_18 : decode cX2_lengthOf 18 = .ok (.ireturn, 1) := by decide +kernel
theorem dX10_empty_0 : decode cX10_empty 0 = .ok (.aload_n 0, 1) := by decide +kernel
theorem dX10_empty_1 : decode cX10_empty 1 = .ok (.getfield 9, 3) := by decide +kernel
theorem dX10_empty_4 : decode cX10_empty 4 = .ok (.iconst (-1), 1) := by decide +kernel
set_option maxRecDepth 20000 in
theorem ggX10_empty_J7_fill_53178 : GoodIn wsX10_empty wsJ7_fill_53178 := goodIn_r _ [7] rfl (by decide +kernel)
set_option maxRecDepth 20000 in
theorem gX10_empty_J7_fill_53178 : GoodIn wsX10_empty (va_wsS RX10 21 yJ7_fill_53178 wsJ7_fill_53178) := goodIn_app (goodIn_r _ [4, 5, 6] rfl (by decide +kernel)) ggX10_empty_J7_fill_53178
theorem dX10_empty_5 : decode cX10_empty 5 = .ok (.invokestatic 21, 3) := by decide +kernel
theorem dX10_empty_8 : decode cX10_empty 8 = .ok (.aload_n 0, 1) := by decide +kernel
theorem dX10_empty_9 : decode cX10_empty 9 = .ok (.getfield 18, 3) := by decide +kernel
theorem dX10_empty_12 : decode cX10_empty 12 = .ok (.iconst (-1), 1) := by decide +kernel
theorem dX10_empty_13 : decode cX10_empty 13 = .ok (.invokestatic 21, 3) := by decide +kernel
theorem dX10_empty_16 : decode cX10_empty 16 = .ok (.aload_n 0, 1) := by decide +kernel
theorem dX10_empty_17 : decode cX10_empty 17 = .ok (.iconst 0, 1) := by decide +kernel
theorem dX10_empty_18 : decode cX10_empty 18 = .ok (.putfield 27, 3) := by decide +kernel
theorem dX10_empty_21 : decode cX10_empty 21 = .ok (.return_, 1) := by decide +kernel
theorem dX11_marksOf_0 : decode cX11_marksOf 0 = .ok (.iconst 0, 1) := by decide +kernel
theorem dX11_marksOf_1 : decode cX11_marksOf 1 = .ok (.istore_n 1, 1) := by decide +kernel
theorem dX11_marksOf_2 : decode cX11_marksOf 2 = .ok (.iconst 0, 1) := by decide +kernel
theorem dX11_marksOf_3 : decode cX11_marksOf 3 = .ok (.istore_n 2, 1) := by decide +kernel
theorem dX11_marksOf_4 : decode cX11_marksOf 4 = .ok (.iload_n 2, 1) := by decide +kernel
theorem dX11_marksOf_5 : decode cX11_marksOf 5 = .ok (.aload_n 0, 1) := by decide +kernel
set_option maxRecDepth 20000 in
theorem ggX11_marksOf_X5_length : GoodIn wsX11_marksOf wsX5_length := goodIn_r _ [6, 7, 13, 14] rfl (by decide +kernel)
set_option maxRecDepth 20000 in
theorem gX11_marksOf_X5_length : GoodIn wsX11_marksOf (wsV RX11 94 RX5 yX5_length wsX5_length) := goodIn_app (goodIn_r _ [2, 3, 4, 5] rfl (by decide +kernel)) ggX11_marksOf_X5_length
theorem dX11_marksOf_6 : decode cX11_marksOf 6 = .ok (.invokevirtual 94, 3) := by decide +kernel
theorem dX11_marksOf_9 : decode cX11_marksOf 9 = .ok (.if_icmp .ge 23, 3) := by decide +kernel
theorem dX11_marksOf_32 : decode cX11_marksOf 32 = .ok (.iload_n 1, 1) := by decide +kernel
theorem dX11_marksOf_33 : decode cX11_marksOf 33 = .ok (.ireturn, 1) := by decide +kernel
theorem dX11_tapeHoldsLetters_0 : decode cX11_tapeHoldsLetters 0 = .ok (.iconst 0, 1) := by decide +kernel
theorem dX11_tapeHoldsLetters_1 : decode cX11_tapeHoldsLetters 1 = .ok (.istore_n 1, 1) := by decide +kernel
theorem dX11_tapeHoldsLetters_2 : decode cX11_tapeHoldsLetters 2 = .ok (.iload_n 1, 1) := by decide +kernel
theorem dX11_tapeHoldsLetters_3 : decode cX11_tapeHoldsLetters 3 = .ok (.aload_n 0, 1) := by decide +kernel
theorem dX11_tapeHoldsLetters_4 : decode cX11_tapeHoldsLetters 4 = .ok (.getfield 30, 3) := by decide +kernel
set_option maxRecDepth 20000 in
theorem ggX11_tapeHoldsLetters_X5_length : GoodIn wsX11_tapeHoldsLetters wsX5_length := goodIn_r _ [7, 8, 33, 34] rfl (by decide +kernel)
set_option maxRecDepth 20000 in
theorem gX11_tapeHoldsLetters_X5_length : GoodIn wsX11_tapeHoldsLetters (wsV RX11 94 RX5 yX5_length wsX5_length) := goodIn_app (goodIn_r _ [3, 4, 5, 6] rfl (by decide +kernel)) ggX11_tapeHoldsLetters_X5_length
theorem dX11_tapeHoldsLetters_7 : decode cX11_tapeHoldsLetters 7 = .ok (.invokevirtual 94, 3) := by decide +kernel
theorem dX11_tapeHoldsLetters_10 : decode cX11_tapeHoldsLetters 10 = .ok (.if_icmp .ge 30, 3) := by decide +kernel
theorem dX11_tapeHoldsLetters_40 : decode cX11_tapeHoldsLetters 40 = .ok (.iconst 1, 1) := by decide +kernel
theorem dX11_tapeHoldsLetters_41 : decode cX11_tapeHoldsLetters 41 = .ok (.ireturn, 1) := by decide +kernel
theorem dX11_tapeHoldsBytes_0 : decode cX11_tapeHoldsBytes 0 = .ok (.iconst 0, 1) := by decide +kernel
theorem dX11_tapeHoldsBytes_1 : decode cX11_tapeHoldsBytes 1 = .ok (.istore_n 1, 1) := by decide +kernel
theorem dX11_tapeHoldsBytes_2 : decode cX11_tapeHoldsBytes 2 = .ok (.iload_n 1, 1) := by decide +kernel
theorem dX11_tapeHoldsBytes_3 : decode cX11_tapeHoldsBytes 3 = .ok (.aload_n 0, 1) := by decide +kernel
theorem dX11_tapeHoldsBytes_4 : decode cX11_tapeHoldsBytes 4 = .ok (.getfield 30, 3) := by decide +kernel
set_option maxRecDepth 20000 in
theorem ggX11_tapeHoldsBytes_X5_length : GoodIn wsX11_tapeHoldsBytes wsX5_length := goodIn_r _ [7, 8, 26, 27] rfl (by decide +kernel)
set_option maxRecDepth 20000 in
theorem gX11_tapeHoldsBytes_X5_length : GoodIn wsX11_tapeHoldsBytes (wsV RX11 94 RX5 yX5_length wsX5_length) := goodIn_app (goodIn_r _ [3, 4, 5, 6] rfl (by decide +kernel)) ggX11_tapeHoldsBytes_X5_length
theorem dX11_tapeHoldsBytes_7 : decode cX11_tapeHoldsBytes 7 = .ok (.invokevirtual 94, 3) := by decide +kernel
theorem dX11_tapeHoldsBytes_10 : decode cX11_tapeHoldsBytes 10 = .ok (.if_icmp .ge 36, 3) := by decide +kernel
theorem dX11_tapeHoldsBytes_46 : decode cX11_tapeHoldsBytes 46 = .ok (.iconst 1, 1) := by decide +kernel
theorem dX11_tapeHoldsBytes_47 : decode cX11_tapeHoldsBytes 47 = .ok (.ireturn, 1) := by decide +kernel
theorem dX11_writes_0 : decode cX11_writes 0 = .ok (.aload_n 0, 1) := by decide +kernel
theorem dX11_writes_1 : decode cX11_writes 1 = .ok (.iconst (-1), 1) := by decide +kernel
theorem dX11_writes_2 : decode cX11_writes 2 = .ok (.putfield 90, 3) := by decide +kernel
theorem dX11_writes_5 : decode cX11_writes 5 = .ok (.iload_n 1, 1) := by decide +kernel
set_option maxRecDepth 20000 in
theorem ggX11_writes_X2_known : GoodIn wsX11_writes wsX2_known := goodIn_r _ [7] rfl (by decide +kernel)
set_option maxRecDepth 20000 in
theorem gX11_writes_X2_known : GoodIn wsX11_writes (va_wsS RX11 117 yX2_known wsX2_known) := goodIn_app (goodIn_r _ [4, 5, 6] rfl (by decide +kernel)) ggX11_writes_X2_known
theorem dX11_writes_6 : decode cX11_writes 6 = .ok (.invokestatic 117, 3) := by decide +kernel
theorem dX11_writes_9 : decode cX11_writes 9 = .ok (.ifCond .ne 5, 3) := by decide +kernel
theorem dX11_writes_14 : decode cX11_writes 14 = .ok (.aload_n 0, 1) := by decide +kernel
theorem dX11_writes_15 : decode cX11_writes 15 = .ok (.getfield 44, 3) := by decide +kernel
theorem dX11_writes_18 : decode cX11_writes 18 = .ok (.iload_n 1, 1) := by decide +kernel
theorem dX11_writes_19 : decode cX11_writes 19 = .ok (.aload_n 0, 1) := by decide +kernel
theorem dX11_writes_20 : decode cX11_writes 20 = .ok (.getfield 34, 3) := by decide +kernel
set_option maxRecDepth 20000 in
theorem ggX11_writes_X7_write : GoodIn wsX11_writes wsX7_write := goodIn_r _ [12, 13, 14, 15, 16, 17, 18, 19, 20, 21, 22, 23, 24, 25, 26, 27, 28, 29, 30, 31, 32, 33, 6, 34, 35, 36, 37, 38, 39, 40, 41, 42, 43, 44, 45, 46, 47, 48, 49, 50, 51, 52, 53, 54, 55, 56, 57, 58, 59, 60, 61, 62, 63, 64, 65, 82, 83, 84, 85, 86, 87, 88, 89, 90, 91, 92] rfl (by decide +kernel)
set_option maxRecDepth 20000 in
theorem gX11_writes_X7_write : GoodIn wsX11_writes (wsV RX11 249 RX7 yX7_write wsX7_write) := goodIn_app (goodIn_r _ [8, 9, 10, 11] rfl (by decide +kernel)) ggX11_writes_X7_write
theorem dX11_writes_23 : decode cX11_writes 23 = .ok (.invokevirtual 249, 3) := by decide +kernel
theorem dX11_writes_26 : decode cX11_writes 26 = .ok (.istore_n 2, 1) := by decide +kernel
theorem dX11_writes_27 : decode cX11_writes 27 = .ok (.aload_n 0, 1) := by decide +kernel
theorem dX11_writes_28 : decode cX11_writes 28 = .ok (.aload_n 0, 1) := by decide +kernel
theorem dX11_writes_29 : decode cX11_writes 29 = .ok (.getfield 44, 3) := by decide +kernel
set_option maxRecDepth 20000 in
theorem ggX11_writes_X7_fault : GoodIn wsX11_writes wsX7_fault := goodIn_r _ [69, 13, 82, 83, 84] rfl (by decide +kernel)
set_option maxRecDepth 20000 in
theorem gX11_writes_X7_fault : GoodIn wsX11_writes (wsV RX11 127 RX7 yX7_fault wsX7_fault) := goodIn_app (goodIn_r _ [66, 67, 68, 11] rfl (by decide +kernel)) ggX11_writes_X7_fault
theorem dX11_writes_32 : decode cX11_writes 32 = .ok (.invokevirtual 127, 3) := by decide +kernel
theorem dX11_writes_35 : decode cX11_writes 35 = .ok (.putfield 90, 3) := by decide +kernel
theorem dX11_writes_38 : decode cX11_writes 38 = .ok (.iload_n 2, 1) := by decide +kernel
theorem dX11_writes_39 : decode cX11_writes 39 = .ok (.ireturn, 1) := by decide +kernel
theorem dX11_writes_12 : decode cX11_writes 12 = .ok (.iconst 0, 1) := by decide +kernel
theorem dX11_writes_13 : decode cX11_writes 13 = .ok (.ireturn, 1) := by decide +kernel
theorem dX11_passes_0 : decode cX11_passes 0 = .ok (.aload_n 0, 1) := by decide +kernel
theorem dX11_passes_1 : decode cX11_passes 1 = .ok (.iconst (-1), 1) := by decide +kernel
theorem dX11_passes_2 : decode cX11_passes 2 = .ok (.putfield 90, 3) := by decide +kernel
theorem dX11_passes_5 : decode cX11_passes 5 = .ok (.iload_n 1, 1) := by decide +kernel
set_option maxRecDepth 20000 in
theorem ggX11_passes_X2_known : GoodIn wsX11_passes wsX2_known := goodIn_r _ [8] rfl (by decide +kernel)
set_option maxRecDepth 20000 in
theorem gX11_passes_X2_known : GoodIn wsX11_passes (va_wsS RX11 117 yX2_known wsX2_known) := goodIn_app (goodIn_r _ [5, 6, 7] rfl (by decide +kernel)) ggX11_passes_X2_known
theorem dX11_passes_6 : decode cX11_passes 6 = .ok (.invokestatic 117, 3) := by decide +kernel
theorem dX11_passes_9 : decode cX11_passes 9 = .ok (.ifCond .eq 10, 3) := by decide +kernel
theorem dX11_passes_19 : decode cX11_passes 19 = .ok (.iconst 0, 1) := by decide +kernel
theorem dX11_passes_20 : decode cX11_passes 20 = .ok (.ireturn, 1) := by decide +kernel
theorem dX11_passes_12 : decode cX11_passes 12 = .ok (.iload_n 2, 1) := by decide +kernel
theorem dX11_passes_13 : decode cX11_passes 13 = .ok (.invokestatic 117, 3) := by decide +kernel
theorem dX11_passes_16 : decode cX11_passes 16 = .ok (.ifCond .ne 5, 3) := by decide +kernel
theorem dX11_passes_21 : decode cX11_passes 21 = .ok (.aload_n 0, 1) := by decide +kernel
theorem dX11_passes_22 : decode cX11_passes 22 = .ok (.getfield 44, 3) := by decide +kernel
theorem dX11_passes_25 : decode cX11_passes 25 = .ok (.iload_n 1, 1) := by decide +kernel
theorem dX11_passes_26 : decode cX11_passes 26 = .ok (.iload_n 2, 1) := by decide +kernel
theorem dX11_passes_27 : decode cX11_passes 27 = .ok (.aload_n 0, 1) := by decide +kernel
theorem dX11_passes_28 : decode cX11_passes 28 = .ok (.getfield 34, 3) := by decide +kernel
theorem dX11_passes_31 : decode cX11_passes 31 = .ok (.aload_n 0, 1) := by decide +kernel
theorem dX11_passes_32 : decode cX11_passes 32 = .ok (.getfield 37, 3) := by decide +kernel
set_option maxRecDepth 20000 in
theorem ggX11_passes_X7_pass : GoodIn wsX11_passes wsX7_pass := goodIn_r _ [13, 14, 15, 16, 17, 12, 18, 19, 20, 21, 22, 23, 24, 25, 26, 27, 28, 29, 30, 31, 32, 33, 34, 35, 36, 37, 38, 7, 39, 40, 41, 42, 43, 44, 45, 46, 47, 48, 49, 50, 51, 52, 53, 54, 55, 56, 57, 58, 59, 60, 61, 62, 63, 64, 65, 66, 67, 68, 69, 70, 71, 72, 73, 74, 75, 76, 77, 78, 79, 80, 81, 82, 83, 84, 85, 86, 87, 88, 89, 90, 91, 92, 93, 94, 95, 96, 97, 98, 99, 100, 101, 102, 103, 104, 105, 106, 107, 108, 109, 110, 111, 112, 113, 114, 131, 132, 133, 134, 135, 136, 137, 138, 139, 140, 141] rfl (by decide +kernel)
set_option maxRecDepth 20000 in
theorem gX11_passes_X7_pass : GoodIn wsX11_passes (wsV RX11 253 RX7 yX7_pass wsX7_pass) := goodIn_app (goodIn_r _ [9, 10, 11, 12] rfl (by decide +kernel)) ggX11_passes_X7_pass
theorem dX11_passes_35 : decode cX11_passes 35 = .ok (.invokevirtual 253, 3) := by decide +kernel
theorem dX11_passes_38 : decode cX11_passes 38 = .ok (.istore_n 3, 1) := by decide +kernel
theorem dX11_passes_39 : decode cX11_passes 39 = .ok (.aload_n 0, 1) := by decide +kernel
theorem dX11_passes_40 : decode cX11_passes 40 = .ok (.aload_n 0, 1) := by decide +kernel
theorem dX11_passes_41 : decode cX11_passes 41 = .ok (.getfield 44, 3) := by decide +kernel
set_option maxRecDepth 20000 in
theorem ggX11_passes_X7_fault : GoodIn wsX11_passes wsX7_fault := goodIn_r _ [118, 19, 131, 132, 133] rfl (by decide +kernel)
set_option maxRecDepth 20000 in
theorem gX11_passes_X7_fault : GoodIn wsX11_passes (wsV RX11 127 RX7 yX7_fault wsX7_fault) := goodIn_app (goodIn_r _ [115, 116, 117, 12] rfl (by decide +kernel)) ggX11_passes_X7_fault
theorem dX11_passes_44 : decode cX11_passes 44 = .ok (.invokevirtual 127, 3) := by decide +kernel
theorem dX11_passes_47 : decode cX11_passes 47 = .ok (.putfield 90, 3) := by decide +kernel
theorem dX11_passes_50 : decode cX11_passes 50 = .ok (.iload_n 3, 1) := by decide +kernel
theorem dX11_passes_51 : decode cX11_passes 51 = .ok (.ireturn, 1) := by decide +kernel
theorem dX11_become_0 : decode cX11_become 0 = .ok (.aload_n 0, 1) := by decide +kernel
theorem dX11_become_1 : decode cX11_become 1 = .ok (.getfield 59, 3) := by decide +kernel
theorem dX11_become_4 : decode cX11_become 4 = .ok (.aload_n 0, 1) := by decide +kernel
theorem dX11_become_5 : decode cX11_become 5 = .ok (.getfield 34, 3) := by decide +kernel
set_option maxRecDepth 20000 in
theorem ggX11_become_X0_remember : GoodIn wsX11_become wsX0_remember := goodIn_r _ [8, 9, 10, 11, 12, 13, 14, 15, 16, 17, 18, 19, 20, 21, 22, 23, 24, 25, 26, 27, 59, 60, 61, 62, 63, 64] rfl (by decide +kernel)
set_option maxRecDepth 20000 in
theorem gX11_become_X0_remember : GoodIn wsX11_become (wsV RX11 257 RX0 yX0_remember wsX0_remember) := goodIn_app (goodIn_r _ [4, 5, 6, 7] rfl (by decide +kernel)) ggX11_become_X0_remember
theorem dX11_become_8 : decode cX11_become 8 = .ok (.invokevirtual 257, 3) := by decide +kernel
theorem dX11_become_11 : decode cX11_become 11 = .ok (.aload_n 0, 1) := by decide +kernel
theorem dX11_become_12 : decode cX11_become 12 = .ok (.getfield 34, 3) := by decide +kernel
theorem dX11_become_15 : decode cX11_become 15 = .ok (.aload_n 1, 1) := by decide +kernel
set_option maxRecDepth 20000 in
theorem ggX11_become_X5_takeAll : GoodIn wsX11_become wsX5_takeAll := goodIn_r _ [31, 22, 32, 33, 34, 20, 35, 27, 36, 37, 38, 39, 63, 64] rfl (by decide +kernel)
set_option maxRecDepth 20000 in
theorem gX11_become_X5_takeAll : GoodIn wsX11_become (wsV RX11 109 RX5 yX5_takeAll wsX5_takeAll) := goodIn_app (goodIn_r _ [28, 29, 30, 20] rfl (by decide +kernel)) ggX11_become_X5_takeAll
theorem dX11_become_16 : decode cX11_become 16 = .ok (.invokevirtual 109, 3) := by decide +kernel
theorem dX11_become_19 : decode cX11_become 19 = .ok (.pop, 1) := by decide +kernel
theorem dX11_become_20 : decode cX11_become 20 = .ok (.aload_n 0, 1) := by decide +kernel
theorem dX11_become_21 : decode cX11_become 21 = .ok (.getfield 86, 3) := by decide +kernel
set_option maxRecDepth 20000 in
theorem ggX11_become_X1_forgetFreshness : GoodIn wsX11_become wsX1_forgetFreshness := goodIn_r _ [44, 45, 65, 66, 67, 68, 69, 70, 71, 72, 73, 74, 75, 76, 77, 78, 79, 80, 81, 82, 83, 84] rfl (by decide +kernel)
set_option maxRecDepth 20000 in
theorem gX11_become_X1_forgetFreshness : GoodIn wsX11_become (wsV RX11 143 RX1 yX1_forgetFreshness wsX1_forgetFreshness) := goodIn_app (goodIn_r _ [40, 41, 42, 43] rfl (by decide +kernel)) ggX11_become_X1_forgetFreshness
theorem dX11_become_24 : decode cX11_become 24 = .ok (.invokevirtual 143, 3) := by decide +kernel
theorem dX11_become_27 : decode cX11_become 27 = .ok (.aload_n 0, 1) := by decide +kernel
theorem dX11_become_28 : decode cX11_become 28 = .ok (.getfield 34, 3) := by decide +kernel
set_option maxRecDepth 20000 in
theorem ggX11_become_X5_length : GoodIn wsX11_become wsX5_length := goodIn_r _ [21, 22, 63, 64] rfl (by decide +kernel)
set_option maxRecDepth 20000 in
theorem gX11_become_X5_length : GoodIn wsX11_become (wsV RX11 94 RX5 yX5_length wsX5_length) := goodIn_app (goodIn_r _ [46, 18, 19, 20] rfl (by decide +kernel)) ggX11_become_X5_length
theorem dX11_become_31 : decode cX11_become 31 = .ok (.invokevirtual 94, 3) := by decide +kernel
theorem dX11_become_34 : decode cX11_become 34 = .ok (.ireturn, 1) := by decide +kernel
