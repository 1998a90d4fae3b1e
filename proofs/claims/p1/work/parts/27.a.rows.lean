theorem dX10_placeFor_57 : decode cX10_placeFor 57 = .ok (.iconst (-1), 1) := by decide +kernel
theorem dX10_placeFor_58 : decode cX10_placeFor 58 = .ok (.ireturn, 1) := by decide +kernel
theorem dX10_placeFor_37 : decode cX10_placeFor 37 = .ok (.aload_n 0, 1) := by decide +kernel
theorem dX10_placeFor_38 : decode cX10_placeFor 38 = .ok (.getfield 15, 3) := by decide +kernel
theorem dX10_placeFor_41 : decode cX10_placeFor 41 = .ok (.iload 4, 2) := by decide +kernel
theorem dX10_placeFor_43 : decode cX10_placeFor 43 = .ok (.iaload, 1) := by decide +kernel
theorem dX10_placeFor_44 : decode cX10_placeFor 44 = .ok (.iload_n 1, 1) := by decide +kernel
theorem dX10_placeFor_45 : decode cX10_placeFor 45 = .ok (.if_icmp .ne 6, 3) := by decide +kernel
theorem dX10_placeFor_51 : decode cX10_placeFor 51 = .ok (.iinc 3 1, 3) := by decide +kernel
theorem dX10_placeFor_54 : decode cX10_placeFor 54 = .ok (.goto (-44), 3) := by decide +kernel
theorem dX10_tell_0 : decode cX10_tell 0 = .ok (.aload_n 0, 1) := by decide +kernel
theorem dX10_tell_1 : decode cX10_tell 1 = .ok (.iload_n 2, 1) := by decide +kernel
set_option maxRecDepth 20000 in
theorem ggX10_tell_X10_placeFor : GoodIn wsX10_tell wsX10_placeFor := goodIn_r _ [9, 10, 3, 2, 11, 12, 13, 14] rfl (by decide +kernel)
set_option maxRecDepth 20000 in
theorem gX10_tell_X10_placeFor : GoodIn wsX10_tell (wsV RX10 31 RX10 yX10_placeFor wsX10_placeFor) := goodIn_app (goodIn_r _ [5, 6, 7, 8] rfl (by decide +kernel)) ggX10_tell_X10_placeFor
theorem dX10_tell_2 : decode cX10_tell 2 = .ok (.invokevirtual 31, 3) := by decide +kernel
theorem dX10_tell_5 : decode cX10_tell 5 = .ok (.istore_n 3, 1) := by decide +kernel
theorem dX10_tell_6 : decode cX10_tell 6 = .ok (.iload_n 3, 1) := by decide +kernel
theorem dX10_tell_7 : decode cX10_tell 7 = .ok (.iconst (-1), 1) := by decide +kernel
theorem dX10_tell_8 : decode cX10_tell 8 = .ok (.if_icmp .eq 14, 3) := by decide +kernel
theorem dX10_tell_11 : decode cX10_tell 11 = .ok (.iload_n 1, 1) := by decide +kernel
theorem dX10_tell_12 : decode cX10_tell 12 = .ok (.ifCond .lt 10, 3) := by decide +kernel
theorem dX10_tell_15 : decode cX10_tell 15 = .ok (.iload_n 1, 1) := by decide +kernel
theorem dX10_tell_16 : decode cX10_tell 16 = .ok (.sipush 256, 3) := by decide +kernel
theorem dX10_tell_19 : decode cX10_tell 19 = .ok (.if_icmp .lt 4, 3) := by decide +kernel
theorem dX10_tell_23 : decode cX10_tell 23 = .ok (.aload_n 0, 1) := by decide +kernel
theorem dX10_tell_24 : decode cX10_tell 24 = .ok (.getfield 9, 3) := by decide +kernel
theorem dX10_tell_27 : decode cX10_tell 27 = .ok (.iload_n 1, 1) := by decide +kernel
theorem dX10_tell_28 : decode cX10_tell 28 = .ok (.iload_n 2, 1) := by decide +kernel
theorem dX10_tell_29 : decode cX10_tell 29 = .ok (.iastore, 1) := by decide +kernel
theorem dX10_tell_30 : decode cX10_tell 30 = .ok (.aload_n 0, 1) := by decide +kernel
theorem dX10_tell_31 : decode cX10_tell 31 = .ok (.getfield 15, 3) := by decide +kernel
theorem dX10_tell_34 : decode cX10_tell 34 = .ok (.iload_n 3, 1) := by decide +kernel
theorem dX10_tell_35 : decode cX10_tell 35 = .ok (.iload_n 2, 1) := by decide +kernel
theorem dX10_tell_36 : decode cX10_tell 36 = .ok (.iastore, 1) := by decide +kernel
theorem dX10_tell_37 : decode cX10_tell 37 = .ok (.aload_n 0, 1) := by decide +kernel
theorem dX10_tell_38 : decode cX10_tell 38 = .ok (.getfield 18, 3) := by decide +kernel
theorem dX10_tell_41 : decode cX10_tell 41 = .ok (.iload_n 3, 1) := by decide +kernel
theorem dX10_tell_42 : decode cX10_tell 42 = .ok (.iload_n 1, 1) := by decide +kernel
theorem dX10_tell_43 : decode cX10_tell 43 = .ok (.iastore, 1) := by decide +kernel
theorem dX10_tell_44 : decode cX10_tell 44 = .ok (.aload_n 0, 1) := by decide +kernel
theorem dX10_tell_45 : decode cX10_tell 45 = .ok (.dup, 1) := by decide +kernel
theorem dX10_tell_46 : decode cX10_tell 46 = .ok (.getfield 27, 3) := by decide +kernel
theorem dX10_tell_49 : decode cX10_tell 49 = .ok (.iconst 1, 1) := by decide +kernel
theorem dX10_tell_50 : decode cX10_tell 50 = .ok (.iadd, 1) := by decide +kernel
theorem dX10_tell_51 : decode cX10_tell 51 = .ok (.putfield 27, 3) := by decide +kernel
theorem dX10_tell_54 : decode cX10_tell 54 = .ok (.return_, 1) := by decide +kernel
theorem dX11_span_0 : decode cX11_span 0 = .ok (.aload_n 0, 1) := by decide +kernel
theorem dX11_span_1 : decode cX11_span 1 = .ok (.iconst (-1), 1) := by decide +kernel
theorem dX11_span_2 : decode cX11_span 2 = .ok (.putfield 90, 3) := by decide +kernel
theorem dX11_span_5 : decode cX11_span 5 = .ok (.aload_n 0, 1) := by decide +kernel
theorem dX11_span_6 : decode cX11_span 6 = .ok (.getfield 40, 3) := by decide +kernel
theorem dX11_span_9 : decode cX11_span 9 = .ok (.iload_n 1, 1) := by decide +kernel
set_option maxRecDepth 20000 in
theorem ggX11_span_X2_toldCode : GoodIn wsX11_span wsX2_toldCode := goodIn_r _ [8, 9, 10, 65, 66] rfl (by decide +kernel)
set_option maxRecDepth 20000 in
theorem gX11_span_X2_toldCode : GoodIn wsX11_span (wsV RX11 129 RX2 yX2_toldCode wsX2_toldCode) := goodIn_app (goodIn_r _ [4, 5, 6, 7] rfl (by decide +kernel)) ggX11_span_X2_toldCode
theorem dX11_span_10 : decode cX11_span 10 = .ok (.invokevirtual 129, 3) := by decide +kernel
theorem dX11_span_13 : decode cX11_span 13 = .ok (.astore 6, 2) := by decide +kernel
theorem dX11_span_15 : decode cX11_span 15 = .ok (.aload 6, 2) := by decide +kernel
theorem dX11_span_17 : decode cX11_span 17 = .ok (.ifnull 17, 3) := by decide +kernel
theorem dX11_span_20 : decode cX11_span 20 = .ok (.aload 6, 2) := by decide +kernel
theorem dX11_span_22 : decode cX11_span 22 = .ok (.iload_n 2, 1) := by decide +kernel
theorem dX11_span_23 : decode cX11_span 23 = .ok (.iload_n 3, 1) := by decide +kernel
theorem dX11_span_24 : decode cX11_span 24 = .ok (.iload 4, 2) := by decide +kernel
theorem dX11_span_26 : decode cX11_span 26 = .ok (.iload 5, 2) := by decide +kernel
set_option maxRecDepth 20000 in
theorem ggX11_span_X10_canTake : GoodIn wsX11_span wsX10_canTake := goodIn_r _ [15, 16, 17, 18, 19, 20, 21, 22, 23, 24, 14, 25, 26, 27, 28, 29, 30, 31, 32, 33, 34, 35, 36, 37, 67, 68, 69, 70] rfl (by decide +kernel)
set_option maxRecDepth 20000 in
theorem gX11_span_X10_canTake : GoodIn wsX11_span (wsV RX11 133 RX10 yX10_canTake wsX10_canTake) := goodIn_app (goodIn_r _ [11, 12, 13, 14] rfl (by decide +kernel)) ggX11_span_X10_canTake
theorem dX11_span_28 : decode cX11_span 28 = .ok (.invokevirtual 133, 3) := by decide +kernel
theorem dX11_span_31 : decode cX11_span 31 = .ok (.ifCond .ne 5, 3) := by decide +kernel
theorem dX11_span_36 : decode cX11_span 36 = .ok (.iconst 0, 1) := by decide +kernel
theorem dX11_span_37 : decode cX11_span 37 = .ok (.istore 7, 2) := by decide +kernel
theorem dX11_span_39 : decode cX11_span 39 = .ok (.iload 7, 2) := by decide +kernel
theorem dX11_span_41 : decode cX11_span 41 = .ok (.iload_n 3, 1) := by decide +kernel
theorem dX11_span_42 : decode cX11_span 42 = .ok (.if_icmp .ge 26, 3) := by decide +kernel
theorem dX11_span_68 : decode cX11_span 68 = .ok (.aload_n 0, 1) := by decide +kernel
theorem dX11_span_69 : decode cX11_span 69 = .ok (.getfield 86, 3) := by decide +kernel
set_option maxRecDepth 20000 in
theorem ggX11_span_X1_forgetFreshness : GoodIn wsX11_span wsX1_forgetFreshness := goodIn_r _ [47, 48, 71, 72, 73, 74, 75, 76, 77, 78, 79, 80, 81, 82, 83, 84, 85, 86, 87, 88, 89, 90] rfl (by decide +kernel)
set_option maxRecDepth 20000 in
theorem gX11_span_X1_forgetFreshness : GoodIn wsX11_span (wsV RX11 143 RX1 yX1_forgetFreshness wsX1_forgetFreshness) := goodIn_app (goodIn_r _ [43, 44, 45, 46] rfl (by decide +kernel)) ggX11_span_X1_forgetFreshness
theorem dX11_span_72 : decode cX11_span 72 = .ok (.invokevirtual 143, 3) := by decide +kernel
theorem dX11_span_75 : decode cX11_span 75 = .ok (.aload 6, 2) := by decide +kernel
set_option maxRecDepth 20000 in
theorem ggX11_span_X10_length : GoodIn wsX11_span wsX10_length := goodIn_r _ [52, 42, 67, 68, 69, 70] rfl (by decide +kernel)
set_option maxRecDepth 20000 in
theorem gX11_span_X10_length : GoodIn wsX11_span (wsV RX11 146 RX10 yX10_length wsX10_length) := goodIn_app (goodIn_r _ [49, 50, 51, 14] rfl (by decide +kernel)) ggX11_span_X10_length
theorem dX11_span_77 : decode cX11_span 77 = .ok (.invokevirtual 146, 3) := by decide +kernel
theorem dX11_span_80 : decode cX11_span 80 = .ok (.ireturn, 1) := by decide +kernel
theorem dX11_span_45 : decode cX11_span 45 = .ok (.aload 6, 2) := by decide +kernel
theorem dX11_span_47 : decode cX11_span 47 = .ok (.iload_n 2, 1) := by decide +kernel
theorem dX11_span_48 : decode cX11_span 48 = .ok (.iload 7, 2) := by decide +kernel
theorem dX11_span_50 : decode cX11_span 50 = .ok (.iadd, 1) := by decide +kernel
theorem dX11_span_51 : decode cX11_span 51 = .ok (.iload 4, 2) := by decide +kernel
theorem dX11_span_53 : decode cX11_span 53 = .ok (.iload 7, 2) := by decide +kernel
theorem dX11_span_55 : decode cX11_span 55 = .ok (.iload 5, 2) := by decide +kernel
theorem dX11_span_57 : decode cX11_span 57 = .ok (.imul, 1) := by decide +kernel
theorem dX11_span_58 : decode cX11_span 58 = .ok (.iadd, 1) := by decide +kernel
set_option maxRecDepth 20000 in
theorem ggX11_span_X10_tell : GoodIn wsX11_span wsX10_tell := goodIn_r _ [41, 26, 37, 31, 42, 32, 33, 34, 14, 35, 36, 67, 68, 69, 70] rfl (by decide +kernel)
set_option maxRecDepth 20000 in
theorem gX11_span_X10_tell : GoodIn wsX11_span (wsV RX11 139 RX10 yX10_tell wsX10_tell) := goodIn_app (goodIn_r _ [38, 39, 40, 14] rfl (by decide +kernel)) ggX11_span_X10_tell
theorem dX11_span_59 : decode cX11_span 59 = .ok (.invokevirtual 139, 3) := by decide +kernel
theorem dX11_span_62 : decode cX11_span 62 = .ok (.iinc 7 1, 3) := by decide +kernel
theorem dX11_span_65 : decode cX11_span 65 = .ok (.goto (-26), 3) := by decide +kernel
theorem dX11_span_34 : decode cX11_span 34 = .ok (.iconst (-1), 1) := by decide +kernel
theorem dX11_span_35 : decode cX11_span 35 = .ok (.ireturn, 1) := by decide +kernel
