theorem dX1_forgetFreshness_0 : decode cX1_forgetFreshness 0 = .ok (.aload_n 0, 1) := by decide +kernel
theorem dX1_forgetFreshness_1 : decode cX1_forgetFreshness 1 = .ok (.iconst 0, 1) := by decide +kernel
theorem dX1_forgetFreshness_2 : decode cX1_forgetFreshness 2 = .ok (.putfield 72, 3) := by decide +kernel
theorem dX1_forgetFreshness_5 : decode cX1_forgetFreshness 5 = .ok (.return_, 1) := by decide +kernel
theorem dX11_feed_0 : decode cX11_feed 0 = .ok (.aload_n 0, 1) := by decide +kernel
theorem dX11_feed_1 : decode cX11_feed 1 = .ok (.getfield 30, 3) := by decide +kernel
set_option maxRecDepth 20000 in
theorem ggX11_feed_X5_length : GoodIn wsX11_feed wsX5_length := goodIn_r _ [6, 7, 25, 26] rfl (by decide +kernel)
set_option maxRecDepth 20000 in
theorem gX11_feed_X5_length : GoodIn wsX11_feed (wsV RX11 94 RX5 yX5_length wsX5_length) := goodIn_app (goodIn_r _ [2, 3, 4, 5] rfl (by decide +kernel)) ggX11_feed_X5_length
theorem dX11_feed_4 : decode cX11_feed 4 = .ok (.invokevirtual 94, 3) := by decide +kernel
theorem dX11_feed_7 : decode cX11_feed 7 = .ok (.iconst 5, 1) := by decide +kernel
theorem dX11_feed_8 : decode cX11_feed 8 = .ok (.iadd, 1) := by decide +kernel
theorem dX11_feed_9 : decode cX11_feed 9 = .ok (.sipush 900, 3) := by decide +kernel
theorem dX11_feed_12 : decode cX11_feed 12 = .ok (.if_icmp .le 5, 3) := by decide +kernel
theorem dX11_feed_17 : decode cX11_feed 17 = .ok (.aload_n 0, 1) := by decide +kernel
theorem dX11_feed_18 : decode cX11_feed 18 = .ok (.getfield 30, 3) := by decide +kernel
theorem dX11_feed_21 : decode cX11_feed 21 = .ok (.iload_n 1, 1) := by decide +kernel
set_option maxRecDepth 20000 in
theorem ggX11_feed_X5_add : GoodIn wsX11_feed wsX5_add := goodIn_r _ [11, 7, 12, 25, 26] rfl (by decide +kernel)
set_option maxRecDepth 20000 in
theorem gX11_feed_X5_add : GoodIn wsX11_feed (wsV RX11 98 RX5 yX5_add wsX5_add) := goodIn_app (goodIn_r _ [8, 9, 10, 5] rfl (by decide +kernel)) ggX11_feed_X5_add
theorem dX11_feed_22 : decode cX11_feed 22 = .ok (.invokevirtual 98, 3) := by decide +kernel
theorem dX11_feed_25 : decode cX11_feed 25 = .ok (.pop, 1) := by decide +kernel
theorem dX11_feed_26 : decode cX11_feed 26 = .ok (.aload_n 0, 1) := by decide +kernel
theorem dX11_feed_27 : decode cX11_feed 27 = .ok (.getfield 30, 3) := by decide +kernel
theorem dX11_feed_30 : decode cX11_feed 30 = .ok (.iload_n 2, 1) := by decide +kernel
theorem dX11_feed_31 : decode cX11_feed 31 = .ok (.invokevirtual 98, 3) := by decide +kernel
theorem dX11_feed_34 : decode cX11_feed 34 = .ok (.pop, 1) := by decide +kernel
theorem dX11_feed_35 : decode cX11_feed 35 = .ok (.aload_n 0, 1) := by decide +kernel
theorem dX11_feed_36 : decode cX11_feed 36 = .ok (.getfield 30, 3) := by decide +kernel
theorem dX11_feed_39 : decode cX11_feed 39 = .ok (.iload_n 3, 1) := by decide +kernel
theorem dX11_feed_40 : decode cX11_feed 40 = .ok (.invokevirtual 98, 3) := by decide +kernel
theorem dX11_feed_43 : decode cX11_feed 43 = .ok (.pop, 1) := by decide +kernel
theorem dX11_feed_44 : decode cX11_feed 44 = .ok (.aload_n 0, 1) := by decide +kernel
theorem dX11_feed_45 : decode cX11_feed 45 = .ok (.getfield 30, 3) := by decide +kernel
theorem dX11_feed_48 : decode cX11_feed 48 = .ok (.iload 4, 2) := by decide +kernel
theorem dX11_feed_50 : decode cX11_feed 50 = .ok (.invokevirtual 98, 3) := by decide +kernel
theorem dX11_feed_53 : decode cX11_feed 53 = .ok (.pop, 1) := by decide +kernel
theorem dX11_feed_54 : decode cX11_feed 54 = .ok (.aload_n 0, 1) := by decide +kernel
theorem dX11_feed_55 : decode cX11_feed 55 = .ok (.getfield 30, 3) := by decide +kernel
theorem dX11_feed_58 : decode cX11_feed 58 = .ok (.iload 5, 2) := by decide +kernel
theorem dX11_feed_60 : decode cX11_feed 60 = .ok (.invokevirtual 98, 3) := by decide +kernel
theorem dX11_feed_63 : decode cX11_feed 63 = .ok (.pop, 1) := by decide +kernel
theorem dX11_feed_64 : decode cX11_feed 64 = .ok (.aload_n 0, 1) := by decide +kernel
theorem dX11_feed_65 : decode cX11_feed 65 = .ok (.getfield 30, 3) := by decide +kernel
theorem dX11_feed_68 : decode cX11_feed 68 = .ok (.invokevirtual 94, 3) := by decide +kernel
theorem dX11_feed_71 : decode cX11_feed 71 = .ok (.ireturn, 1) := by decide +kernel
theorem dX11_feed_15 : decode cX11_feed 15 = .ok (.iconst (-1), 1) := by decide +kernel
theorem dX11_feed_16 : decode cX11_feed 16 = .ok (.ireturn, 1) := by decide +kernel
theorem dX12_feed_0 : decode cX12_feed 0 = .ok (.aload_n 0, 1) := by decide +kernel
theorem dX12_feed_1 : decode cX12_feed 1 = .ok (.iconst 0, 1) := by decide +kernel
theorem dX12_feed_2 : decode cX12_feed 2 = .ok (.putfield 85, 3) := by decide +kernel
theorem dX12_feed_5 : decode cX12_feed 5 = .ok (.aload_n 0, 1) := by decide +kernel
theorem dX12_feed_6 : decode cX12_feed 6 = .ok (.getfield 151, 3) := by decide +kernel
theorem dX12_feed_9 : decode cX12_feed 9 = .ok (.iconst 5, 1) := by decide +kernel
theorem dX12_feed_10 : decode cX12_feed 10 = .ok (.iadd, 1) := by decide +kernel
theorem dX12_feed_11 : decode cX12_feed 11 = .ok (.sipush 900, 3) := by decide +kernel
theorem dX12_feed_14 : decode cX12_feed 14 = .ok (.if_icmp .le 5, 3) := by decide +kernel
theorem dX12_feed_19 : decode cX12_feed 19 = .ok (.aload_n 0, 1) := by decide +kernel
theorem dX12_feed_20 : decode cX12_feed 20 = .ok (.getfield 9, 3) := by decide +kernel
theorem dX12_feed_23 : decode cX12_feed 23 = .ok (.aload_n 0, 1) := by decide +kernel
theorem dX12_feed_24 : decode cX12_feed 24 = .ok (.getfield 151, 3) := by decide +kernel
theorem dX12_feed_27 : decode cX12_feed 27 = .ok (.iload_n 1, 1) := by decide +kernel
theorem dX12_feed_28 : decode cX12_feed 28 = .ok (.iastore, 1) := by decide +kernel
theorem dX12_feed_29 : decode cX12_feed 29 = .ok (.aload_n 0, 1) := by decide +kernel
theorem dX12_feed_30 : decode cX12_feed 30 = .ok (.getfield 9, 3) := by decide +kernel
theorem dX12_feed_33 : decode cX12_feed 33 = .ok (.aload_n 0, 1) := by decide +kernel
theorem dX12_feed_34 : decode cX12_feed 34 = .ok (.getfield 151, 3) := by decide +kernel
theorem dX12_feed_37 : decode cX12_feed 37 = .ok (.iconst 1, 1) := by decide +kernel
theorem dX12_feed_38 : decode cX12_feed 38 = .ok (.iadd, 1) := by decide +kernel
theorem dX12_feed_39 : decode cX12_feed 39 = .ok (.iload_n 2, 1) := by decide +kernel
theorem dX12_feed_40 : decode cX12_feed 40 = .ok (.iastore, 1) := by decide +kernel
theorem dX12_feed_41 : decode cX12_feed 41 = .ok (.aload_n 0, 1) := by decide +kernel
theorem dX12_feed_42 : decode cX12_feed 42 = .ok (.getfield 9, 3) := by decide +kernel
theorem dX12_feed_45 : decode cX12_feed 45 = .ok (.aload_n 0, 1) := by decide +kernel
theorem dX12_feed_46 : decode cX12_feed 46 = .ok (.getfield 151, 3) := by decide +kernel
theorem dX12_feed_49 : decode cX12_feed 49 = .ok (.iconst 2, 1) := by decide +kernel
theorem dX12_feed_50 : decode cX12_feed 50 = .ok (.iadd, 1) := by decide +kernel
theorem dX12_feed_51 : decode cX12_feed 51 = .ok (.iload_n 3, 1) := by decide +kernel
theorem dX12_feed_52 : decode cX12_feed 52 = .ok (.iastore, 1) := by decide +kernel
theorem dX12_feed_53 : decode cX12_feed 53 = .ok (.aload_n 0, 1) := by decide +kernel
theorem dX12_feed_54 : decode cX12_feed 54 = .ok (.getfield 9, 3) := by decide +kernel
theorem dX12_feed_57 : decode cX12_feed 57 = .ok (.aload_n 0, 1) := by decide +kernel
theorem dX12_feed_58 : decode cX12_feed 58 = .ok (.getfield 151, 3) := by decide +kernel
theorem dX12_feed_61 : decode cX12_feed 61 = .ok (.iconst 3, 1) := by decide +kernel
theorem dX12_feed_62 : decode cX12_feed 62 = .ok (.iadd, 1) := by decide +kernel
theorem dX12_feed_63 : decode cX12_feed 63 = .ok (.iload 4, 2) := by decide +kernel
theorem dX12_feed_65 : decode cX12_feed 65 = .ok (.iastore, 1) := by decide +kernel
theorem dX12_feed_66 : decode cX12_feed 66 = .ok (.aload_n 0, 1) := by decide +kernel
theorem dX12_feed_67 : decode cX12_feed 67 = .ok (.getfield 9, 3) := by decide +kernel
theorem dX12_feed_70 : decode cX12_feed 70 = .ok (.aload_n 0, 1) := by decide +kernel
theorem dX12_feed_71 : decode cX12_feed 71 = .ok (.getfield 151, 3) := by decide +kernel
theorem dX12_feed_74 : decode cX12_feed 74 = .ok (.iconst 4, 1) := by decide +kernel
theorem dX12_feed_75 : decode cX12_feed 75 = .ok (.iadd, 1) := by decide +kernel
theorem dX12_feed_76 : decode cX12_feed 76 = .ok (.iload 5, 2) := by decide +kernel
theorem dX12_feed_78 : decode cX12_feed 78 = .ok (.iastore, 1) := by decide +kernel
theorem dX12_feed_79 : decode cX12_feed 79 = .ok (.aload_n 0, 1) := by decide +kernel
theorem dX12_feed_80 : decode cX12_feed 80 = .ok (.dup, 1) := by decide +kernel
theorem dX12_feed_81 : decode cX12_feed 81 = .ok (.getfield 151, 3) := by decide +kernel
theorem dX12_feed_84 : decode cX12_feed 84 = .ok (.iconst 5, 1) := by decide +kernel
theorem dX12_feed_85 : decode cX12_feed 85 = .ok (.iadd, 1) := by decide +kernel
theorem dX12_feed_86 : decode cX12_feed 86 = .ok (.putfield 151, 3) := by decide +kernel
theorem dX12_feed_89 : decode cX12_feed 89 = .ok (.aload_n 0, 1) := by decide +kernel
theorem dX12_feed_90 : decode cX12_feed 90 = .ok (.getfield 151, 3) := by decide +kernel
theorem dX12_feed_93 : decode cX12_feed 93 = .ok (.ireturn, 1) := by decide +kernel
theorem dX12_feed_17 : decode cX12_feed 17 = .ok (.iconst (-1), 1) := by decide +kernel
theorem dX12_feed_18 : decode cX12_feed 18 = .ok (.ireturn, 1) := by decide +kernel
theorem dX11_tapeHoldsLetters_0 : decode cX11_tapeHoldsLetters 0 = .ok (.iconst 0, 1) := by decide +kernel
theorem dX11_tapeHoldsLetters_1 : decode cX11_tapeHoldsLetters 1 = .ok (.istore_n 1, 1) := by decide +kernel
theorem dX11_tapeHoldsLetters_2 : decode cX11_tapeHoldsLetters 2 = .ok (.iload_n 1, 1) := by decide +kernel
theorem dX11_tapeHoldsLetters_3 : decode cX11_tapeHoldsLetters 3 = .ok (.aload_n 0, 1) := by decide +kernel
theorem dX11_tapeHoldsLetters_4 : decode cX11_tapeHoldsLetters 4 = .ok (.getfield 30, 3) := by decide +kernel
set_option maxRecDepth 20000 in
theorem ggX11_tapeHoldsLetters_X5_length : GoodIn wsX11_tapeHoldsLetters wsX5_length := goodIn_r _ [7, 8, 33, 34] rfl (by decide +kernel)
set_option maxRecDepth 20000 in
theorem gX11_tapeHoldsLetters_X5_length : GoodIn wsX11_tapeHoldsLetters (wsV RX11 94 RX5 yX5_length wsX5_length) := goodIn_app (goodIn_r _ [3, 4, 5, 6] rfl (by decide +kernel)) ggX11_tapeHoldsLetters_X5_length
theorem dX11_tapeHoldsLetters_7 : decode cX11_tapeHoldsLetters 7 = .ok (.invokevirtual 94, 3) := by decide +kernel
theorem dX11_tapeHoldsLetters_10 : decode cX11_tapeHoldsLetters 10 = .ok (.if_icmp .ge 30, 3) := by decide +kernel
theorem dX11_tapeHoldsLetters_40 : decode cX11_tapeHoldsLetters 40 = .ok (.iconst 1, 1) := by decide +kernel
theorem dX11_tapeHoldsLetters_41 : decode cX11_tapeHoldsLetters 41 = .ok (.ireturn, 1) := by decide +kernel
theorem dX11_tapeHoldsLetters_13 : decode cX11_tapeHoldsLetters 13 = .ok (.aload_n 0, 1) := by decide +kernel
theorem dX11_tapeHoldsLetters_14 : decode cX11_tapeHoldsLetters 14 = .ok (.getfield 30, 3) := by decide +kernel
theorem dX11_tapeHoldsLetters_17 : decode cX11_tapeHoldsLetters 17 = .ok (.iload_n 1, 1) := by decide +kernel
set_option maxRecDepth 20000 in
theorem ggX11_tapeHoldsLetters_X5_get : GoodIn wsX11_tapeHoldsLetters wsX5_get := goodIn_r _ [12, 8, 13, 33, 34] rfl (by decide +kernel)
set_option maxRecDepth 20000 in
theorem gX11_tapeHoldsLetters_X5_get : GoodIn wsX11_tapeHoldsLetters (wsV RX11 167 RX5 yX5_get wsX5_get) := goodIn_app (goodIn_r _ [9, 10, 11, 6] rfl (by decide +kernel)) ggX11_tapeHoldsLetters_X5_get
theorem dX11_tapeHoldsLetters_18 : decode cX11_tapeHoldsLetters 18 = .ok (.invokevirtual 167, 3) := by decide +kernel
set_option maxRecDepth 20000 in
theorem ggX11_tapeHoldsLetters_X11_isLetter : GoodIn wsX11_tapeHoldsLetters wsX11_isLetter := goodIn_r _ [17, 18, 19, 20] rfl (by decide +kernel)
set_option maxRecDepth 20000 in
theorem gX11_tapeHoldsLetters_X11_isLetter : GoodIn wsX11_tapeHoldsLetters (va_wsS RX11 205 yX11_isLetter wsX11_isLetter) := goodIn_app (goodIn_r _ [14, 15, 16] rfl (by decide +kernel)) ggX11_tapeHoldsLetters_X11_isLetter
theorem dX11_tapeHoldsLetters_21 : decode cX11_tapeHoldsLetters 21 = .ok (.invokestatic 205, 3) := by decide +kernel
theorem dX11_tapeHoldsLetters_24 : decode cX11_tapeHoldsLetters 24 = .ok (.ifCond .ne 10, 3) := by decide +kernel
theorem dX11_tapeHoldsLetters_34 : decode cX11_tapeHoldsLetters 34 = .ok (.iinc 1 1, 3) := by decide +kernel
theorem dX11_tapeHoldsLetters_37 : decode cX11_tapeHoldsLetters 37 = .ok (.goto (-35), 3) := by decide +kernel
theorem dX11_tapeHoldsLetters_27 : decode cX11_tapeHoldsLetters 27 = .ok (.aload_n 0, 1) := by decide +kernel
theorem dX11_tapeHoldsLetters_28 : decode cX11_tapeHoldsLetters 28 = .ok (.iload_n 1, 1) := by decide +kernel
theorem dX11_tapeHoldsLetters_29 : decode cX11_tapeHoldsLetters 29 = .ok (.putfield 90, 3) := by decide +kernel
theorem dX11_tapeHoldsLetters_32 : decode cX11_tapeHoldsLetters 32 = .ok (.iconst 0, 1) := by decide +kernel
theorem dX11_tapeHoldsLetters_33 : decode cX11_tapeHoldsLetters 33 = .ok (.ireturn, 1) := by decide +kernel
