theorem dX8_reached_0 : decode cX8_reached 0 = .ok (.aload_n 0, 1) := by decide +kernel
theorem dX8_reached_1 : decode cX8_reached 1 = .ok (.getfield 19, 3) := by decide +kernel
theorem dX8_reached_4 : decode cX8_reached 4 = .ok (.ireturn, 1) := by decide +kernel
theorem dX8_letters_0 : decode cX8_letters 0 = .ok (.aload_n 0, 1) := by decide +kernel
theorem dX8_letters_1 : decode cX8_letters 1 = .ok (.getfield 29, 3) := by decide +kernel
theorem dX8_letters_4 : decode cX8_letters 4 = .ok (.ireturn, 1) := by decide +kernel
theorem dX8_begin_0 : decode cX8_begin 0 = .ok (.aload_n 0, 1) := by decide +kernel
theorem dX8_begin_1 : decode cX8_begin 1 = .ok (.iconst 0, 1) := by decide +kernel
theorem dX8_begin_2 : decode cX8_begin 2 = .ok (.putfield 19, 3) := by decide +kernel
theorem dX8_begin_5 : decode cX8_begin 5 = .ok (.aload_n 0, 1) := by decide +kernel
theorem dX8_begin_6 : decode cX8_begin 6 = .ok (.bipush 32, 2) := by decide +kernel
theorem dX8_begin_8 : decode cX8_begin 8 = .ok (.putfield 23, 3) := by decide +kernel
theorem dX8_begin_11 : decode cX8_begin 11 = .ok (.aload_n 0, 1) := by decide +kernel
theorem dX8_begin_12 : decode cX8_begin 12 = .ok (.iconst 0, 1) := by decide +kernel
theorem dX8_begin_13 : decode cX8_begin 13 = .ok (.putfield 26, 3) := by decide +kernel
theorem dX8_begin_16 : decode cX8_begin 16 = .ok (.aload_n 0, 1) := by decide +kernel
theorem dX8_begin_17 : decode cX8_begin 17 = .ok (.iconst 0, 1) := by decide +kernel
theorem dX8_begin_18 : decode cX8_begin 18 = .ok (.putfield 29, 3) := by decide +kernel
theorem dX8_begin_21 : decode cX8_begin 21 = .ok (.return_, 1) := by decide +kernel
theorem dX8_takeAll_0 : decode cX8_takeAll 0 = .ok (.aload_n 0, 1) := by decide +kernel
theorem dX8_takeAll_1 : decode cX8_takeAll 1 = .ok (.aload_n 1, 1) := by decide +kernel
theorem dX8_takeAll_2 : decode cX8_takeAll 2 = .ok (.getfield 19, 3) := by decide +kernel
theorem dX8_takeAll_5 : decode cX8_takeAll 5 = .ok (.putfield 19, 3) := by decide +kernel
theorem dX8_takeAll_8 : decode cX8_takeAll 8 = .ok (.aload_n 0, 1) := by decide +kernel
theorem dX8_takeAll_9 : decode cX8_takeAll 9 = .ok (.aload_n 1, 1) := by decide +kernel
theorem dX8_takeAll_10 : decode cX8_takeAll 10 = .ok (.getfield 23, 3) := by decide +kernel
theorem dX8_takeAll_13 : decode cX8_takeAll 13 = .ok (.putfield 23, 3) := by decide +kernel
theorem dX8_takeAll_16 : decode cX8_takeAll 16 = .ok (.aload_n 0, 1) := by decide +kernel
theorem dX8_takeAll_17 : decode cX8_takeAll 17 = .ok (.aload_n 1, 1) := by decide +kernel
theorem dX8_takeAll_18 : decode cX8_takeAll 18 = .ok (.getfield 26, 3) := by decide +kernel
theorem dX8_takeAll_21 : decode cX8_takeAll 21 = .ok (.putfield 26, 3) := by decide +kernel
theorem dX8_takeAll_24 : decode cX8_takeAll 24 = .ok (.aload_n 0, 1) := by decide +kernel
theorem dX8_takeAll_25 : decode cX8_takeAll 25 = .ok (.aload_n 1, 1) := by decide +kernel
theorem dX8_takeAll_26 : decode cX8_takeAll 26 = .ok (.getfield 29, 3) := by decide +kernel
theorem dX8_takeAll_29 : decode cX8_takeAll 29 = .ok (.putfield 29, 3) := by decide +kernel
theorem dX8_takeAll_32 : decode cX8_takeAll 32 = .ok (.return_, 1) := by decide +kernel
theorem dX8_step_0 : decode cX8_step 0 = .ok (.aload_n 0, 1) := by decide +kernel
theorem dX8_step_1 : decode cX8_step 1 = .ok (.getfield 9, 3) := by decide +kernel
theorem dX8_step_4 : decode cX8_step 4 = .ok (.iload_n 1, 1) := by decide +kernel
theorem dX8_step_5 : decode cX8_step 5 = .ok (.aload_n 2, 1) := by decide +kernel
theorem dX8_step_6 : decode cX8_step 6 = .ok (.aload_n 0, 1) := by decide +kernel
theorem dX8_step_7 : decode cX8_step 7 = .ok (.getfield 19, 3) := by decide +kernel
theorem dX8_step_10 : decode cX8_step 10 = .ok (.iload_n 3, 1) := by decide +kernel
set_option maxRecDepth 20000 in
theorem ggX8_step_X2_decode : GoodIn wsX8_step wsX2_decode := goodIn_r _ [15, 16, 17, 18, 19, 20, 21, 22, 23, 24, 25, 14, 26, 27, 28, 29, 30, 31, 32, 33, 34, 35, 36, 37, 38, 39, 40, 41, 42, 43, 44, 45, 46, 47, 48, 49, 50, 51, 52, 53, 54, 55, 56, 91, 92, 93, 94, 95, 96, 97, 98] rfl (by decide +kernel)
set_option maxRecDepth 20000 in
theorem gX8_step_X2_decode : GoodIn wsX8_step (wsV RX8 32 RX2 yX2_decode wsX2_decode) := goodIn_app (goodIn_r _ [11, 12, 13, 14] rfl (by decide +kernel)) ggX8_step_X2_decode
theorem dX8_step_11 : decode cX8_step 11 = .ok (.invokevirtual 32, 3) := by decide +kernel
theorem dX8_step_14 : decode cX8_step 14 = .ok (.istore 4, 2) := by decide +kernel
theorem dX8_step_16 : decode cX8_step 16 = .ok (.iload 4, 2) := by decide +kernel
theorem dX8_step_18 : decode cX8_step 18 = .ok (.iconst (-1), 1) := by decide +kernel
theorem dX8_step_19 : decode cX8_step 19 = .ok (.if_icmp .ne 5, 3) := by decide +kernel
theorem dX8_step_24 : decode cX8_step 24 = .ok (.iload 4, 2) := by decide +kernel
set_option maxRecDepth 20000 in
theorem ggX8_step_X2_letterIn : GoodIn wsX8_step wsX2_letterIn := goodIn_r _ [59] rfl (by decide +kernel)
set_option maxRecDepth 20000 in
theorem gX8_step_X2_letterIn : GoodIn wsX8_step (va_wsS RX8 38 yX2_letterIn wsX2_letterIn) := goodIn_app (goodIn_r _ [57, 58, 14] rfl (by decide +kernel)) ggX8_step_X2_letterIn
theorem dX8_step_26 : decode cX8_step 26 = .ok (.invokestatic 38, 3) := by decide +kernel
theorem dX8_step_29 : decode cX8_step 29 = .ok (.istore 5, 2) := by decide +kernel
theorem dX8_step_31 : decode cX8_step 31 = .ok (.aload_n 0, 1) := by decide +kernel
theorem dX8_step_32 : decode cX8_step 32 = .ok (.dup, 1) := by decide +kernel
theorem dX8_step_33 : decode cX8_step 33 = .ok (.getfield 26, 3) := by decide +kernel
theorem dX8_step_36 : decode cX8_step 36 = .ok (.aload_n 0, 1) := by decide +kernel
theorem dX8_step_37 : decode cX8_step 37 = .ok (.getfield 15, 3) := by decide +kernel
theorem dX8_step_40 : decode cX8_step 40 = .ok (.aload_n 0, 1) := by decide +kernel
theorem dX8_step_41 : decode cX8_step 41 = .ok (.getfield 23, 3) := by decide +kernel
theorem dX8_step_44 : decode cX8_step 44 = .ok (.iload 5, 2) := by decide +kernel
set_option maxRecDepth 20000 in
theorem ggX8_step_X3_of : GoodIn wsX8_step wsX3_of := goodIn_r _ [64, 65, 66, 67, 68, 69, 63, 70, 71, 72, 73, 74, 75, 76, 77, 78, 79, 80, 81, 99, 100, 101] rfl (by decide +kernel)
set_option maxRecDepth 20000 in
theorem gX8_step_X3_of : GoodIn wsX8_step (wsV RX8 42 RX3 yX3_of wsX3_of) := goodIn_app (goodIn_r _ [60, 61, 62, 63] rfl (by decide +kernel)) ggX8_step_X3_of
theorem dX8_step_46 : decode cX8_step 46 = .ok (.invokevirtual 42, 3) := by decide +kernel
theorem dX8_step_49 : decode cX8_step 49 = .ok (.iadd, 1) := by decide +kernel
theorem dX8_step_50 : decode cX8_step 50 = .ok (.putfield 26, 3) := by decide +kernel
theorem dX8_step_53 : decode cX8_step 53 = .ok (.aload_n 0, 1) := by decide +kernel
theorem dX8_step_54 : decode cX8_step 54 = .ok (.iload 5, 2) := by decide +kernel
theorem dX8_step_56 : decode cX8_step 56 = .ok (.putfield 23, 3) := by decide +kernel
theorem dX8_step_59 : decode cX8_step 59 = .ok (.aload_n 0, 1) := by decide +kernel
theorem dX8_step_60 : decode cX8_step 60 = .ok (.dup, 1) := by decide +kernel
theorem dX8_step_61 : decode cX8_step 61 = .ok (.getfield 29, 3) := by decide +kernel
theorem dX8_step_64 : decode cX8_step 64 = .ok (.iconst 1, 1) := by decide +kernel
theorem dX8_step_65 : decode cX8_step 65 = .ok (.iadd, 1) := by decide +kernel
theorem dX8_step_66 : decode cX8_step 66 = .ok (.putfield 29, 3) := by decide +kernel
theorem dX8_step_69 : decode cX8_step 69 = .ok (.aload_n 0, 1) := by decide +kernel
theorem dX8_step_70 : decode cX8_step 70 = .ok (.dup, 1) := by decide +kernel
theorem dX8_step_71 : decode cX8_step 71 = .ok (.getfield 19, 3) := by decide +kernel
theorem dX8_step_74 : decode cX8_step 74 = .ok (.iconst 1, 1) := by decide +kernel
theorem dX8_step_75 : decode cX8_step 75 = .ok (.iload 4, 2) := by decide +kernel
set_option maxRecDepth 20000 in
theorem ggX8_step_X2_bytesIn : GoodIn wsX8_step wsX2_bytesIn := goodIn_r _ [84] rfl (by decide +kernel)
set_option maxRecDepth 20000 in
theorem gX8_step_X2_bytesIn : GoodIn wsX8_step (va_wsS RX8 48 yX2_bytesIn wsX2_bytesIn) := goodIn_app (goodIn_r _ [82, 83, 14] rfl (by decide +kernel)) ggX8_step_X2_bytesIn
theorem dX8_step_77 : decode cX8_step 77 = .ok (.invokestatic 48, 3) := by decide +kernel
theorem dX8_step_80 : decode cX8_step 80 = .ok (.invokestatic 51, 3) := by decide +kernel
theorem dX8_step_83 : decode cX8_step 83 = .ok (.iadd, 1) := by decide +kernel
theorem dX8_step_84 : decode cX8_step 84 = .ok (.putfield 19, 3) := by decide +kernel
theorem dX8_step_87 : decode cX8_step 87 = .ok (.iconst 1, 1) := by decide +kernel
theorem dX8_step_88 : decode cX8_step 88 = .ok (.ireturn, 1) := by decide +kernel
theorem dX8_step_22 : decode cX8_step 22 = .ok (.iconst 0, 1) := by decide +kernel
theorem dX8_step_23 : decode cX8_step 23 = .ok (.ireturn, 1) := by decide +kernel
theorem dX8_goOn_0 : decode cX8_goOn 0 = .ok (.iload_n 3, 1) := by decide +kernel
theorem dX8_goOn_1 : decode cX8_goOn 1 = .ok (.aload_n 0, 1) := by decide +kernel
theorem dX8_goOn_2 : decode cX8_goOn 2 = .ok (.getfield 19, 3) := by decide +kernel
theorem dX8_goOn_5 : decode cX8_goOn 5 = .ok (.isub, 1) := by decide +kernel
theorem dX8_goOn_6 : decode cX8_goOn 6 = .ok (.istore 4, 2) := by decide +kernel
theorem dX8_goOn_8 : decode cX8_goOn 8 = .ok (.iconst 0, 1) := by decide +kernel
theorem dX8_goOn_9 : decode cX8_goOn 9 = .ok (.istore 5, 2) := by decide +kernel
theorem dX8_goOn_11 : decode cX8_goOn 11 = .ok (.iload 5, 2) := by decide +kernel
theorem dX8_goOn_13 : decode cX8_goOn 13 = .ok (.iload 4, 2) := by decide +kernel
theorem dX8_goOn_15 : decode cX8_goOn 15 = .ok (.if_icmp .ge 20, 3) := by decide +kernel
theorem dX8_goOn_35 : decode cX8_goOn 35 = .ok (.return_, 1) := by decide +kernel
theorem dX8_goOn_18 : decode cX8_goOn 18 = .ok (.aload_n 0, 1) := by decide +kernel
theorem dX8_goOn_19 : decode cX8_goOn 19 = .ok (.iload_n 1, 1) := by decide +kernel
theorem dX8_goOn_20 : decode cX8_goOn 20 = .ok (.aload_n 2, 1) := by decide +kernel
theorem dX8_goOn_21 : decode cX8_goOn 21 = .ok (.iload_n 3, 1) := by decide +kernel
set_option maxRecDepth 20000 in
theorem ggX8_goOn_X8_step : GoodIn wsX8_goOn wsX8_step := goodIn_r _ [6, 7, 1, 8, 9, 10, 11, 12, 13, 14, 15, 16, 17, 18, 19, 20, 21, 22, 23, 24, 25, 26, 27, 28, 29, 30, 31, 32, 33, 34, 35, 36, 37, 38, 39, 40, 41, 42, 43, 44, 45, 46, 47, 48, 49, 50, 51, 52, 53, 54, 55, 56, 57, 58, 59, 60, 61, 62, 63, 64, 65, 66, 67, 68, 69, 70, 71, 72, 73, 74, 75, 76, 77, 78, 79, 80, 81, 82, 83, 84, 85, 86, 87, 88, 89, 90, 91, 92, 93, 94, 95, 96, 97, 98, 99, 100, 101, 102, 103, 104, 105, 106] rfl (by decide +kernel)
set_option maxRecDepth 20000 in
theorem gX8_goOn_X8_step : GoodIn wsX8_goOn (wsV RX8 56 RX8 yX8_step wsX8_step) := goodIn_app (goodIn_r _ [2, 3, 4, 5] rfl (by decide +kernel)) ggX8_goOn_X8_step
theorem dX8_goOn_22 : decode cX8_goOn 22 = .ok (.invokevirtual 56, 3) := by decide +kernel
theorem dX8_goOn_25 : decode cX8_goOn 25 = .ok (.ifCond .ne 4, 3) := by decide +kernel
theorem dX8_goOn_29 : decode cX8_goOn 29 = .ok (.iinc 5 1, 3) := by decide +kernel
theorem dX8_goOn_32 : decode cX8_goOn 32 = .ok (.goto (-21), 3) := by decide +kernel
theorem dX8_goOn_28 : decode cX8_goOn 28 = .ok (.return_, 1) := by decide +kernel
theorem dX8_sumWith_0 : decode cX8_sumWith 0 = .ok (.aload_n 0, 1) := by decide +kernel
theorem dX8_sumWith_1 : decode cX8_sumWith 1 = .ok (.getfield 26, 3) := by decide +kernel
theorem dX8_sumWith_4 : decode cX8_sumWith 4 = .ok (.aload_n 0, 1) := by decide +kernel
theorem dX8_sumWith_5 : decode cX8_sumWith 5 = .ok (.getfield 15, 3) := by decide +kernel
theorem dX8_sumWith_8 : decode cX8_sumWith 8 = .ok (.aload_n 0, 1) := by decide +kernel
theorem dX8_sumWith_9 : decode cX8_sumWith 9 = .ok (.getfield 23, 3) := by decide +kernel
theorem dX8_sumWith_12 : decode cX8_sumWith 12 = .ok (.iload_n 1, 1) := by decide +kernel
set_option maxRecDepth 20000 in
theorem ggX8_sumWith_X3_of : GoodIn wsX8_sumWith wsX3_of := goodIn_r _ [8, 9, 10, 11, 12, 13, 7, 14, 15, 16, 17, 18, 19, 20, 21, 22, 23, 24, 25, 32, 33, 34] rfl (by decide +kernel)
set_option maxRecDepth 20000 in
theorem gX8_sumWith_X3_of : GoodIn wsX8_sumWith (wsV RX8 42 RX3 yX3_of wsX3_of) := goodIn_app (goodIn_r _ [4, 5, 6, 7] rfl (by decide +kernel)) ggX8_sumWith_X3_of
theorem dX8_sumWith_13 : decode cX8_sumWith 13 = .ok (.invokevirtual 42, 3) := by decide +kernel
theorem dX8_sumWith_16 : decode cX8_sumWith 16 = .ok (.iadd, 1) := by decide +kernel
theorem dX8_sumWith_17 : decode cX8_sumWith 17 = .ok (.ireturn, 1) := by decide +kernel
theorem dX6_spans_0 : decode cX6_spans 0 = .ok (.aload_n 0, 1) := by decide +kernel
theorem dX6_spans_1 : decode cX6_spans 1 = .ok (.getfield 30, 3) := by decide +kernel
theorem dX6_spans_4 : decode cX6_spans 4 = .ok (.iconst 0, 1) := by decide +kernel
theorem dX6_spans_5 : decode cX6_spans 5 = .ok (.iaload, 1) := by decide +kernel
theorem dX6_spans_6 : decode cX6_spans 6 = .ok (.ireturn, 1) := by decide +kernel
theorem dX6_isBetter_0 : decode cX6_isBetter 0 = .ok (.iload_n 2, 1) := by decide +kernel
theorem dX6_isBetter_1 : decode cX6_isBetter 1 = .ok (.aload_n 0, 1) := by decide +kernel
theorem dX6_isBetter_2 : decode cX6_isBetter 2 = .ok (.getfield 26, 3) := by decide +kernel
theorem dX6_isBetter_5 : decode cX6_isBetter 5 = .ok (.iload_n 1, 1) := by decide +kernel
theorem dX6_isBetter_6 : decode cX6_isBetter 6 = .ok (.iaload, 1) := by decide +kernel
theorem dX6_isBetter_7 : decode cX6_isBetter 7 = .ok (.if_icmp .eq 19, 3) := by decide +kernel
theorem dX6_isBetter_26 : decode cX6_isBetter 26 = .ok (.iload_n 3, 1) := by decide +kernel
theorem dX6_isBetter_27 : decode cX6_isBetter 27 = .ok (.aload_n 0, 1) := by decide +kernel
theorem dX6_isBetter_28 : decode cX6_isBetter 28 = .ok (.getfield 30, 3) := by decide +kernel
theorem dX6_isBetter_31 : decode cX6_isBetter 31 = .ok (.iload_n 1, 1) := by decide +kernel
theorem dX6_isBetter_32 : decode cX6_isBetter 32 = .ok (.iaload, 1) := by decide +kernel
theorem dX6_isBetter_33 : decode cX6_isBetter 33 = .ok (.if_icmp .eq 19, 3) := by decide +kernel
theorem dX6_isBetter_52 : decode cX6_isBetter 52 = .ok (.iload 4, 2) := by decide +kernel
theorem dX6_isBetter_54 : decode cX6_isBetter 54 = .ok (.aload_n 0, 1) := by decide +kernel
theorem dX6_isBetter_55 : decode cX6_isBetter 55 = .ok (.getfield 33, 3) := by decide +kernel
theorem dX6_isBetter_58 : decode cX6_isBetter 58 = .ok (.iload_n 1, 1) := by decide +kernel
theorem dX6_isBetter_59 : decode cX6_isBetter 59 = .ok (.iaload, 1) := by decide +kernel
theorem dX6_isBetter_60 : decode cX6_isBetter 60 = .ok (.if_icmp .le 7, 3) := by decide +kernel
theorem dX6_isBetter_67 : decode cX6_isBetter 67 = .ok (.iconst 0, 1) := by decide +kernel
theorem dX6_isBetter_68 : decode cX6_isBetter 68 = .ok (.ireturn, 1) := by decide +kernel
theorem dX6_isBetter_63 : decode cX6_isBetter 63 = .ok (.iconst 1, 1) := by decide +kernel
theorem dX6_isBetter_64 : decode cX6_isBetter 64 = .ok (.goto 4, 3) := by decide +kernel
theorem dX6_isBetter_36 : decode cX6_isBetter 36 = .ok (.iload_n 3, 1) := by decide +kernel
theorem dX6_isBetter_37 : decode cX6_isBetter 37 = .ok (.aload_n 0, 1) := by decide +kernel
theorem dX6_isBetter_38 : decode cX6_isBetter 38 = .ok (.getfield 30, 3) := by decide +kernel
theorem dX6_isBetter_41 : decode cX6_isBetter 41 = .ok (.iload_n 1, 1) := by decide +kernel
theorem dX6_isBetter_42 : decode cX6_isBetter 42 = .ok (.iaload, 1) := by decide +kernel
theorem dX6_isBetter_43 : decode cX6_isBetter 43 = .ok (.if_icmp .ge 7, 3) := by decide +kernel
theorem dX6_isBetter_50 : decode cX6_isBetter 50 = .ok (.iconst 0, 1) := by decide +kernel
theorem dX6_isBetter_51 : decode cX6_isBetter 51 = .ok (.ireturn, 1) := by decide +kernel
theorem dX6_isBetter_46 : decode cX6_isBetter 46 = .ok (.iconst 1, 1) := by decide +kernel
theorem dX6_isBetter_47 : decode cX6_isBetter 47 = .ok (.goto 4, 3) := by decide +kernel
theorem dX6_isBetter_10 : decode cX6_isBetter 10 = .ok (.iload_n 2, 1) := by decide +kernel
theorem dX6_isBetter_11 : decode cX6_isBetter 11 = .ok (.aload_n 0, 1) := by decide +kernel
theorem dX6_isBetter_12 : decode cX6_isBetter 12 = .ok (.getfield 26, 3) := by decide +kernel
theorem dX6_isBetter_15 : decode cX6_isBetter 15 = .ok (.iload_n 1, 1) := by decide +kernel
theorem dX6_isBetter_16 : decode cX6_isBetter 16 = .ok (.iaload, 1) := by decide +kernel
theorem dX6_isBetter_17 : decode cX6_isBetter 17 = .ok (.if_icmp .ge 7, 3) := by decide +kernel
theorem dX6_isBetter_24 : decode cX6_isBetter 24 = .ok (.iconst 0, 1) := by decide +kernel
theorem dX6_isBetter_25 : decode cX6_isBetter 25 = .ok (.ireturn, 1) := by decide +kernel
theorem dX6_isBetter_20 : decode cX6_isBetter 20 = .ok (.iconst 1, 1) := by decide +kernel
theorem dX6_isBetter_21 : decode cX6_isBetter 21 = .ok (.goto 4, 3) := by decide +kernel
theorem dX6_offer_0 : decode cX6_offer 0 = .ok (.iload_n 1, 1) := by decide +kernel
theorem dX6_offer_1 : decode cX6_offer 1 = .ok (.ifCond .lt 14, 3) := by decide +kernel
theorem dX6_offer_15 : decode cX6_offer 15 = .ok (.return_, 1) := by decide +kernel
theorem dX6_offer_4 : decode cX6_offer 4 = .ok (.iload_n 2, 1) := by decide +kernel
theorem dX6_offer_5 : decode cX6_offer 5 = .ok (.iload_n 1, 1) := by decide +kernel
theorem dX6_offer_6 : decode cX6_offer 6 = .ok (.if_icmp .le 9, 3) := by decide +kernel
theorem dX6_offer_9 : decode cX6_offer 9 = .ok (.iload_n 2, 1) := by decide +kernel
theorem dX6_offer_10 : decode cX6_offer 10 = .ok (.bipush 60, 2) := by decide +kernel
theorem dX6_offer_12 : decode cX6_offer 12 = .ok (.if_icmp .le 4, 3) := by decide +kernel
theorem dX6_offer_16 : decode cX6_offer 16 = .ok (.iload 4, 2) := by decide +kernel
theorem dX6_offer_18 : decode cX6_offer 18 = .ok (.aload_n 0, 1) := by decide +kernel
theorem dX6_offer_19 : decode cX6_offer 19 = .ok (.getfield 26, 3) := by decide +kernel
theorem dX6_offer_22 : decode cX6_offer 22 = .ok (.iload_n 2, 1) := by decide +kernel
theorem dX6_offer_23 : decode cX6_offer 23 = .ok (.iaload, 1) := by decide +kernel
theorem dX6_offer_24 : decode cX6_offer 24 = .ok (.iadd, 1) := by decide +kernel
theorem dX6_offer_25 : decode cX6_offer 25 = .ok (.aload_n 0, 1) := by decide +kernel
theorem dX6_offer_26 : decode cX6_offer 26 = .ok (.getfield 30, 3) := by decide +kernel
theorem dX6_offer_29 : decode cX6_offer 29 = .ok (.iload_n 2, 1) := by decide +kernel
theorem dX6_offer_30 : decode cX6_offer 30 = .ok (.iaload, 1) := by decide +kernel
theorem dX6_offer_31 : decode cX6_offer 31 = .ok (.ifCond .le 10, 3) := by decide +kernel
theorem dX6_offer_41 : decode cX6_offer 41 = .ok (.iconst 0, 1) := by decide +kernel
theorem dX6_offer_42 : decode cX6_offer 42 = .ok (.iadd, 1) := by decide +kernel
theorem dX6_offer_43 : decode cX6_offer 43 = .ok (.istore 5, 2) := by decide +kernel
theorem dX6_offer_45 : decode cX6_offer 45 = .ok (.iconst 1, 1) := by decide +kernel
theorem dX6_offer_46 : decode cX6_offer 46 = .ok (.aload_n 0, 1) := by decide +kernel
theorem dX6_offer_47 : decode cX6_offer 47 = .ok (.getfield 30, 3) := by decide +kernel
theorem dX6_offer_50 : decode cX6_offer 50 = .ok (.iload_n 2, 1) := by decide +kernel
theorem dX6_offer_51 : decode cX6_offer 51 = .ok (.iaload, 1) := by decide +kernel
theorem dX6_offer_52 : decode cX6_offer 52 = .ok (.iadd, 1) := by decide +kernel
theorem dX6_offer_53 : decode cX6_offer 53 = .ok (.istore 6, 2) := by decide +kernel
theorem dX6_offer_55 : decode cX6_offer 55 = .ok (.aload_n 0, 1) := by decide +kernel
theorem dX6_offer_56 : decode cX6_offer 56 = .ok (.getfield 26, 3) := by decide +kernel
theorem dX6_offer_59 : decode cX6_offer 59 = .ok (.iload_n 1, 1) := by decide +kernel
theorem dX6_offer_60 : decode cX6_offer 60 = .ok (.iaload, 1) := by decide +kernel
theorem dX6_offer_61 : decode cX6_offer 61 = .ok (.iconst (-1), 1) := by decide +kernel
theorem dX6_offer_62 : decode cX6_offer 62 = .ok (.if_icmp .eq 16, 3) := by decide +kernel
theorem dX6_offer_78 : decode cX6_offer 78 = .ok (.aload_n 0, 1) := by decide +kernel
theorem dX6_offer_79 : decode cX6_offer 79 = .ok (.getfield 26, 3) := by decide +kernel
theorem dX6_offer_82 : decode cX6_offer 82 = .ok (.iload_n 1, 1) := by decide +kernel
theorem dX6_offer_83 : decode cX6_offer 83 = .ok (.iload 5, 2) := by decide +kernel
theorem dX6_offer_85 : decode cX6_offer 85 = .ok (.iastore, 1) := by decide +kernel
theorem dX6_offer_86 : decode cX6_offer 86 = .ok (.aload_n 0, 1) := by decide +kernel
theorem dX6_offer_87 : decode cX6_offer 87 = .ok (.getfield 30, 3) := by decide +kernel
theorem dX6_offer_90 : decode cX6_offer 90 = .ok (.iload_n 1, 1) := by decide +kernel
theorem dX6_offer_91 : decode cX6_offer 91 = .ok (.iload 6, 2) := by decide +kernel
theorem dX6_offer_93 : decode cX6_offer 93 = .ok (.iastore, 1) := by decide +kernel
theorem dX6_offer_94 : decode cX6_offer 94 = .ok (.aload_n 0, 1) := by decide +kernel
theorem dX6_offer_95 : decode cX6_offer 95 = .ok (.getfield 33, 3) := by decide +kernel
theorem dX6_offer_98 : decode cX6_offer 98 = .ok (.iload_n 1, 1) := by decide +kernel
theorem dX6_offer_99 : decode cX6_offer 99 = .ok (.iload_n 2, 1) := by decide +kernel
theorem dX6_offer_100 : decode cX6_offer 100 = .ok (.iastore, 1) := by decide +kernel
theorem dX6_offer_101 : decode cX6_offer 101 = .ok (.aload_n 0, 1) := by decide +kernel
theorem dX6_offer_102 : decode cX6_offer 102 = .ok (.getfield 36, 3) := by decide +kernel
theorem dX6_offer_105 : decode cX6_offer 105 = .ok (.iload_n 1, 1) := by decide +kernel
theorem dX6_offer_106 : decode cX6_offer 106 = .ok (.iload_n 3, 1) := by decide +kernel
theorem dX6_offer_107 : decode cX6_offer 107 = .ok (.iastore, 1) := by decide +kernel
theorem dX6_offer_108 : decode cX6_offer 108 = .ok (.return_, 1) := by decide +kernel
theorem dX6_offer_65 : decode cX6_offer 65 = .ok (.aload_n 0, 1) := by decide +kernel
theorem dX6_offer_66 : decode cX6_offer 66 = .ok (.iload_n 1, 1) := by decide +kernel
theorem dX6_offer_67 : decode cX6_offer 67 = .ok (.iload 5, 2) := by decide +kernel
theorem dX6_offer_69 : decode cX6_offer 69 = .ok (.iload 6, 2) := by decide +kernel
theorem dX6_offer_71 : decode cX6_offer 71 = .ok (.iload_n 2, 1) := by decide +kernel
set_option maxRecDepth 20000 in
theorem ggX6_offer_X6_isBetter : GoodIn wsX6_offer wsX6_isBetter := goodIn_r _ [10, 1, 2, 4, 11, 12, 13, 14, 15, 16, 17, 18, 19, 20, 21, 22] rfl (by decide +kernel)
set_option maxRecDepth 20000 in
theorem gX6_offer_X6_isBetter : GoodIn wsX6_offer (wsV RX6 128 RX6 yX6_isBetter wsX6_isBetter) := goodIn_app (goodIn_r _ [6, 7, 8, 9] rfl (by decide +kernel)) ggX6_offer_X6_isBetter
theorem dX6_offer_72 : decode cX6_offer 72 = .ok (.invokevirtual 128, 3) := by decide +kernel
theorem dX6_offer_75 : decode cX6_offer 75 = .ok (.ifCond .eq 33, 3) := by decide +kernel
theorem dX6_offer_34 : decode cX6_offer 34 = .ok (.aload_n 0, 1) := by decide +kernel
theorem dX6_offer_35 : decode cX6_offer 35 = .ok (.getfield 60, 3) := by decide +kernel
theorem dX6_offer_38 : decode cX6_offer 38 = .ok (.goto 4, 3) := by decide +kernel
theorem dX6_tryAsItIs_0 : decode cX6_tryAsItIs 0 = .ok (.iconst 0, 1) := by decide +kernel
theorem dX6_tryAsItIs_1 : decode cX6_tryAsItIs 1 = .ok (.istore 4, 2) := by decide +kernel
theorem dX6_tryAsItIs_3 : decode cX6_tryAsItIs 3 = .ok (.bipush 32, 2) := by decide +kernel
theorem dX6_tryAsItIs_5 : decode cX6_tryAsItIs 5 = .ok (.istore 5, 2) := by decide +kernel
theorem dX6_tryAsItIs_7 : decode cX6_tryAsItIs 7 = .ok (.iload_n 1, 1) := by decide +kernel
theorem dX6_tryAsItIs_8 : decode cX6_tryAsItIs 8 = .ok (.istore 6, 2) := by decide +kernel
theorem dX6_tryAsItIs_10 : decode cX6_tryAsItIs 10 = .ok (.iload 6, 2) := by decide +kernel
theorem dX6_tryAsItIs_12 : decode cX6_tryAsItIs 12 = .ok (.iload_n 3, 1) := by decide +kernel
theorem dX6_tryAsItIs_13 : decode cX6_tryAsItIs 13 = .ok (.if_icmp .ge 61, 3) := by decide +kernel
theorem dX6_tryAsItIs_74 : decode cX6_tryAsItIs 74 = .ok (.return_, 1) := by decide +kernel
theorem dX6_tryAsItIs_16 : decode cX6_tryAsItIs 16 = .ok (.aload_n 2, 1) := by decide +kernel
theorem dX6_tryAsItIs_17 : decode cX6_tryAsItIs 17 = .ok (.iload 6, 2) := by decide +kernel
set_option maxRecDepth 20000 in
theorem ggX6_tryAsItIs_X5_get : GoodIn wsX6_tryAsItIs wsX5_get := goodIn_r _ [6, 7, 8, 57, 58] rfl (by decide +kernel)
set_option maxRecDepth 20000 in
theorem gX6_tryAsItIs_X5_get : GoodIn wsX6_tryAsItIs (wsV RX6 85 RX5 yX5_get wsX5_get) := goodIn_app (goodIn_r _ [2, 3, 4, 5] rfl (by decide +kernel)) ggX6_tryAsItIs_X5_get
theorem dX6_tryAsItIs_19 : decode cX6_tryAsItIs 19 = .ok (.invokevirtual 85, 3) := by decide +kernel
theorem dX6_tryAsItIs_22 : decode cX6_tryAsItIs 22 = .ok (.istore 7, 2) := by decide +kernel
theorem dX6_tryAsItIs_24 : decode cX6_tryAsItIs 24 = .ok (.iload 4, 2) := by decide +kernel
theorem dX6_tryAsItIs_26 : decode cX6_tryAsItIs 26 = .ok (.aload_n 0, 1) := by decide +kernel
theorem dX6_tryAsItIs_27 : decode cX6_tryAsItIs 27 = .ok (.getfield 47, 3) := by decide +kernel
theorem dX6_tryAsItIs_30 : decode cX6_tryAsItIs 30 = .ok (.iload 5, 2) := by decide +kernel
theorem dX6_tryAsItIs_32 : decode cX6_tryAsItIs 32 = .ok (.iload 7, 2) := by decide +kernel
set_option maxRecDepth 20000 in
theorem ggX6_tryAsItIs_X3_of : GoodIn wsX6_tryAsItIs wsX3_of := goodIn_r _ [13, 14, 15, 16, 17, 18, 12, 19, 20, 21, 22, 23, 24, 25, 26, 27, 28, 29, 30, 59, 60, 61] rfl (by decide +kernel)
set_option maxRecDepth 20000 in
theorem gX6_tryAsItIs_X3_of : GoodIn wsX6_tryAsItIs (wsV RX6 89 RX3 yX3_of wsX3_of) := goodIn_app (goodIn_r _ [9, 10, 11, 12] rfl (by decide +kernel)) ggX6_tryAsItIs_X3_of
theorem dX6_tryAsItIs_34 : decode cX6_tryAsItIs 34 = .ok (.invokevirtual 89, 3) := by decide +kernel
theorem dX6_tryAsItIs_37 : decode cX6_tryAsItIs 37 = .ok (.iadd, 1) := by decide +kernel
theorem dX6_tryAsItIs_38 : decode cX6_tryAsItIs 38 = .ok (.istore 4, 2) := by decide +kernel
theorem dX6_tryAsItIs_40 : decode cX6_tryAsItIs 40 = .ok (.iload 7, 2) := by decide +kernel
theorem dX6_tryAsItIs_42 : decode cX6_tryAsItIs 42 = .ok (.istore 5, 2) := by decide +kernel
theorem dX6_tryAsItIs_44 : decode cX6_tryAsItIs 44 = .ok (.aload_n 0, 1) := by decide +kernel
theorem dX6_tryAsItIs_45 : decode cX6_tryAsItIs 45 = .ok (.iload_n 1, 1) := by decide +kernel
theorem dX6_tryAsItIs_46 : decode cX6_tryAsItIs 46 = .ok (.iload 6, 2) := by decide +kernel
theorem dX6_tryAsItIs_48 : decode cX6_tryAsItIs 48 = .ok (.iconst 1, 1) := by decide +kernel
theorem dX6_tryAsItIs_49 : decode cX6_tryAsItIs 49 = .ok (.iadd, 1) := by decide +kernel
theorem dX6_tryAsItIs_50 : decode cX6_tryAsItIs 50 = .ok (.iconst (-1), 1) := by decide +kernel
theorem dX6_tryAsItIs_51 : decode cX6_tryAsItIs 51 = .ok (.iload 4, 2) := by decide +kernel
theorem dX6_tryAsItIs_53 : decode cX6_tryAsItIs 53 = .ok (.aload_n 0, 1) := by decide +kernel
theorem dX6_tryAsItIs_54 : decode cX6_tryAsItIs 54 = .ok (.getfield 47, 3) := by decide +kernel
theorem dX6_tryAsItIs_57 : decode cX6_tryAsItIs 57 = .ok (.iload 7, 2) := by decide +kernel
theorem dX6_tryAsItIs_59 : decode cX6_tryAsItIs 59 = .ok (.bipush 32, 2) := by decide +kernel
theorem dX6_tryAsItIs_61 : decode cX6_tryAsItIs 61 = .ok (.invokevirtual 89, 3) := by decide +kernel
theorem dX6_tryAsItIs_64 : decode cX6_tryAsItIs 64 = .ok (.iadd, 1) := by decide +kernel
set_option maxRecDepth 20000 in
theorem ggX6_tryAsItIs_X6_offer : GoodIn wsX6_tryAsItIs wsX6_offer := goodIn_r _ [35, 36, 37, 38, 39, 40, 41, 42, 43, 34, 44, 45, 46, 47, 48, 49, 50, 51, 52, 53, 54, 55, 56] rfl (by decide +kernel)
set_option maxRecDepth 20000 in
theorem gX6_tryAsItIs_X6_offer : GoodIn wsX6_tryAsItIs (wsV RX6 94 RX6 yX6_offer wsX6_offer) := goodIn_app (goodIn_r _ [31, 32, 33, 34] rfl (by decide +kernel)) ggX6_tryAsItIs_X6_offer
theorem dX6_tryAsItIs_65 : decode cX6_tryAsItIs 65 = .ok (.invokevirtual 94, 3) := by decide +kernel
theorem dX6_tryAsItIs_68 : decode cX6_tryAsItIs 68 = .ok (.iinc 6 1, 3) := by decide +kernel
theorem dX6_tryAsItIs_71 : decode cX6_tryAsItIs 71 = .ok (.goto (-61), 3) := by decide +kernel
theorem dX6_tryUndone_0 : decode cX6_tryUndone 0 = .ok (.aload_n 0, 1) := by decide +kernel
theorem dX6_tryUndone_1 : decode cX6_tryUndone 1 = .ok (.getfield 56, 3) := by decide +kernel
set_option maxRecDepth 20000 in
theorem ggX6_tryUndone_X8_begin : GoodIn wsX6_tryUndone wsX8_begin := goodIn_r _ [9, 10, 11, 12, 13, 186, 187, 188, 189, 190, 191] rfl (by decide +kernel)
set_option maxRecDepth 20000 in
theorem gX6_tryUndone_X8_begin : GoodIn wsX6_tryUndone (wsV RX6 98 RX8 yX8_begin wsX8_begin) := goodIn_app (goodIn_r _ [5, 6, 7, 8] rfl (by decide +kernel)) ggX6_tryUndone_X8_begin
theorem dX6_tryUndone_4 : decode cX6_tryUndone 4 = .ok (.invokevirtual 98, 3) := by decide +kernel
theorem dX6_tryUndone_7 : decode cX6_tryUndone 7 = .ok (.aload_n 0, 1) := by decide +kernel
theorem dX6_tryUndone_8 : decode cX6_tryUndone 8 = .ok (.getfield 14, 3) := by decide +kernel
theorem dX6_tryUndone_11 : decode cX6_tryUndone 11 = .ok (.iconst 0, 1) := by decide +kernel
set_option maxRecDepth 20000 in
theorem ggX6_tryUndone_X5_cut : GoodIn wsX6_tryUndone wsX5_cut := goodIn_r _ [18, 19, 192, 193] rfl (by decide +kernel)
set_option maxRecDepth 20000 in
theorem gX6_tryUndone_X5_cut : GoodIn wsX6_tryUndone (wsV RX6 101 RX5 yX5_cut wsX5_cut) := goodIn_app (goodIn_r _ [14, 15, 16, 17] rfl (by decide +kernel)) ggX6_tryUndone_X5_cut
theorem dX6_tryUndone_12 : decode cX6_tryUndone 12 = .ok (.invokevirtual 101, 3) := by decide +kernel
theorem dX6_tryUndone_15 : decode cX6_tryUndone 15 = .ok (.iload_n 2, 1) := by decide +kernel
theorem dX6_tryUndone_16 : decode cX6_tryUndone 16 = .ok (.istore 5, 2) := by decide +kernel
theorem dX6_tryUndone_18 : decode cX6_tryUndone 18 = .ok (.iload 5, 2) := by decide +kernel
theorem dX6_tryUndone_20 : decode cX6_tryUndone 20 = .ok (.iload 4, 2) := by decide +kernel
theorem dX6_tryUndone_22 : decode cX6_tryUndone 22 = .ok (.if_icmp .ge 114, 3) := by decide +kernel
theorem dX6_tryUndone_136 : decode cX6_tryUndone 136 = .ok (.return_, 1) := by decide +kernel
theorem dX6_tryUndone_25 : decode cX6_tryUndone 25 = .ok (.aload_n 0, 1) := by decide +kernel
theorem dX6_tryUndone_26 : decode cX6_tryUndone 26 = .ok (.getfield 39, 3) := by decide +kernel
theorem dX6_tryUndone_29 : decode cX6_tryUndone 29 = .ok (.aload_n 0, 1) := by decide +kernel
theorem dX6_tryUndone_30 : decode cX6_tryUndone 30 = .ok (.getfield 43, 3) := by decide +kernel
theorem dX6_tryUndone_33 : decode cX6_tryUndone 33 = .ok (.iload_n 1, 1) := by decide +kernel
set_option maxRecDepth 20000 in
theorem ggX6_tryUndone_X4_readIn : GoodIn wsX6_tryUndone wsX4_readIn := goodIn_r _ [24, 25, 26, 194, 195, 196, 197] rfl (by decide +kernel)
set_option maxRecDepth 20000 in
theorem gX6_tryUndone_X4_readIn : GoodIn wsX6_tryUndone (wsV RX6 104 RX4 yX4_readIn wsX4_readIn) := goodIn_app (goodIn_r _ [20, 21, 22, 23] rfl (by decide +kernel)) ggX6_tryUndone_X4_readIn
theorem dX6_tryUndone_34 : decode cX6_tryUndone 34 = .ok (.invokevirtual 104, 3) := by decide +kernel
theorem dX6_tryUndone_37 : decode cX6_tryUndone 37 = .ok (.aload_n 3, 1) := by decide +kernel
theorem dX6_tryUndone_38 : decode cX6_tryUndone 38 = .ok (.iload 5, 2) := by decide +kernel
set_option maxRecDepth 20000 in
theorem ggX6_tryUndone_X5_get : GoodIn wsX6_tryUndone wsX5_get := goodIn_r _ [30, 19, 31, 192, 193] rfl (by decide +kernel)
set_option maxRecDepth 20000 in
theorem gX6_tryUndone_X5_get : GoodIn wsX6_tryUndone (wsV RX6 85 RX5 yX5_get wsX5_get) := goodIn_app (goodIn_r _ [27, 28, 29, 17] rfl (by decide +kernel)) ggX6_tryUndone_X5_get
theorem dX6_tryUndone_40 : decode cX6_tryUndone 40 = .ok (.invokevirtual 85, 3) := by decide +kernel
theorem dX6_tryUndone_43 : decode cX6_tryUndone 43 = .ok (.aload_n 0, 1) := by decide +kernel
theorem dX6_tryUndone_44 : decode cX6_tryUndone 44 = .ok (.getfield 14, 3) := by decide +kernel
set_option maxRecDepth 20000 in
theorem ggX6_tryUndone_X2_encode : GoodIn wsX6_tryUndone wsX2_encode := goodIn_r _ [36, 37, 38, 39, 17, 40, 19, 31, 41, 42, 35, 43, 44, 45, 46, 47, 48, 49, 50, 51, 52, 53, 54, 55, 56, 57, 58, 59, 60, 61, 62, 63, 64, 65, 66, 67, 192, 193, 198, 199, 200, 201, 202, 203] rfl (by decide +kernel)
set_option maxRecDepth 20000 in
theorem gX6_tryUndone_X2_encode : GoodIn wsX6_tryUndone (wsV RX6 107 RX2 yX2_encode wsX2_encode) := goodIn_app (goodIn_r _ [32, 33, 34, 35] rfl (by decide +kernel)) ggX6_tryUndone_X2_encode
theorem dX6_tryUndone_47 : decode cX6_tryUndone 47 = .ok (.invokevirtual 107, 3) := by decide +kernel
theorem dX6_tryUndone_50 : decode cX6_tryUndone 50 = .ok (.ifCond .ne 4, 3) := by decide +kernel
theorem dX6_tryUndone_54 : decode cX6_tryUndone 54 = .ok (.aload_n 0, 1) := by decide +kernel
theorem dX6_tryUndone_55 : decode cX6_tryUndone 55 = .ok (.getfield 56, 3) := by decide +kernel
theorem dX6_tryUndone_58 : decode cX6_tryUndone 58 = .ok (.aload_n 0, 1) := by decide +kernel
theorem dX6_tryUndone_59 : decode cX6_tryUndone 59 = .ok (.getfield 43, 3) := by decide +kernel
theorem dX6_tryUndone_62 : decode cX6_tryUndone 62 = .ok (.iload_n 1, 1) := by decide +kernel
set_option maxRecDepth 20000 in
theorem ggX6_tryUndone_X4_writtenIn : GoodIn wsX6_tryUndone wsX4_writtenIn := goodIn_r _ [71, 25, 72, 194, 195, 196, 197] rfl (by decide +kernel)
set_option maxRecDepth 20000 in
theorem gX6_tryUndone_X4_writtenIn : GoodIn wsX6_tryUndone (wsV RX6 113 RX4 yX4_writtenIn wsX4_writtenIn) := goodIn_app (goodIn_r _ [68, 69, 70, 23] rfl (by decide +kernel)) ggX6_tryUndone_X4_writtenIn
theorem dX6_tryUndone_63 : decode cX6_tryUndone 63 = .ok (.invokevirtual 113, 3) := by decide +kernel
theorem dX6_tryUndone_66 : decode cX6_tryUndone 66 = .ok (.aload_n 0, 1) := by decide +kernel
theorem dX6_tryUndone_67 : decode cX6_tryUndone 67 = .ok (.getfield 14, 3) := by decide +kernel
theorem dX6_tryUndone_70 : decode cX6_tryUndone 70 = .ok (.aload_n 0, 1) := by decide +kernel
theorem dX6_tryUndone_71 : decode cX6_tryUndone 71 = .ok (.getfield 14, 3) := by decide +kernel
set_option maxRecDepth 20000 in
theorem ggX6_tryUndone_X5_length : GoodIn wsX6_tryUndone wsX5_length := goodIn_r _ [76, 19, 192, 193] rfl (by decide +kernel)
set_option maxRecDepth 20000 in
theorem gX6_tryUndone_X5_length : GoodIn wsX6_tryUndone (wsV RX6 64 RX5 yX5_length wsX5_length) := goodIn_app (goodIn_r _ [73, 74, 75, 17] rfl (by decide +kernel)) ggX6_tryUndone_X5_length
theorem dX6_tryUndone_74 : decode cX6_tryUndone 74 = .ok (.invokevirtual 64, 3) := by decide +kernel
set_option maxRecDepth 20000 in
theorem ggX6_tryUndone_X8_goOn : GoodIn wsX6_tryUndone wsX8_goOn := goodIn_r _ [80, 10, 81, 82, 83, 8, 84, 85, 12, 86, 11, 13, 87, 88, 89, 90, 91, 92, 93, 35, 94, 95, 28, 29, 17, 30, 19, 31, 96, 97, 98, 99, 50, 51, 52, 53, 54, 55, 100, 101, 102, 59, 103, 104, 105, 106, 107, 108, 109, 110, 111, 112, 113, 114, 115, 116, 117, 118, 119, 44, 45, 46, 120, 121, 122, 123, 124, 125, 126, 127, 128, 129, 130, 131, 132, 133, 134, 135, 136, 137, 138, 139, 140, 141, 142, 143, 144, 145, 146, 147, 186, 187, 188, 189, 190, 191, 192, 193, 198, 199, 200, 201, 202, 203, 204, 205, 206] rfl (by decide +kernel)
set_option maxRecDepth 20000 in
theorem gX6_tryUndone_X8_goOn : GoodIn wsX6_tryUndone (wsV RX6 116 RX8 yX8_goOn wsX8_goOn) := goodIn_app (goodIn_r _ [77, 78, 79, 8] rfl (by decide +kernel)) ggX6_tryUndone_X8_goOn
theorem dX6_tryUndone_77 : decode cX6_tryUndone 77 = .ok (.invokevirtual 116, 3) := by decide +kernel
theorem dX6_tryUndone_80 : decode cX6_tryUndone 80 = .ok (.aload_n 0, 1) := by decide +kernel
theorem dX6_tryUndone_81 : decode cX6_tryUndone 81 = .ok (.getfield 56, 3) := by decide +kernel
set_option maxRecDepth 20000 in
theorem ggX6_tryUndone_X8_letters : GoodIn wsX6_tryUndone wsX8_letters := goodIn_r _ [151, 13, 186, 187, 188, 189, 190, 191] rfl (by decide +kernel)
set_option maxRecDepth 20000 in
theorem gX6_tryUndone_X8_letters : GoodIn wsX6_tryUndone (wsV RX6 119 RX8 yX8_letters wsX8_letters) := goodIn_app (goodIn_r _ [148, 149, 150, 8] rfl (by decide +kernel)) ggX6_tryUndone_X8_letters
theorem dX6_tryUndone_84 : decode cX6_tryUndone 84 = .ok (.invokevirtual 119, 3) := by decide +kernel
theorem dX6_tryUndone_87 : decode cX6_tryUndone 87 = .ok (.sipush 300, 3) := by decide +kernel
theorem dX6_tryUndone_90 : decode cX6_tryUndone 90 = .ok (.if_icmp .le 4, 3) := by decide +kernel
theorem dX6_tryUndone_94 : decode cX6_tryUndone 94 = .ok (.aload_n 0, 1) := by decide +kernel
theorem dX6_tryUndone_95 : decode cX6_tryUndone 95 = .ok (.getfield 56, 3) := by decide +kernel
set_option maxRecDepth 20000 in
theorem ggX6_tryUndone_X8_reached : GoodIn wsX6_tryUndone wsX8_reached := goodIn_r _ [155, 10, 186, 187, 188, 189, 190, 191] rfl (by decide +kernel)
set_option maxRecDepth 20000 in
theorem gX6_tryUndone_X8_reached : GoodIn wsX6_tryUndone (wsV RX6 122 RX8 yX8_reached wsX8_reached) := goodIn_app (goodIn_r _ [152, 153, 154, 8] rfl (by decide +kernel)) ggX6_tryUndone_X8_reached
theorem dX6_tryUndone_98 : decode cX6_tryUndone 98 = .ok (.invokevirtual 122, 3) := by decide +kernel
theorem dX6_tryUndone_101 : decode cX6_tryUndone 101 = .ok (.aload_n 0, 1) := by decide +kernel
theorem dX6_tryUndone_102 : decode cX6_tryUndone 102 = .ok (.getfield 14, 3) := by decide +kernel
theorem dX6_tryUndone_105 : decode cX6_tryUndone 105 = .ok (.invokevirtual 64, 3) := by decide +kernel
theorem dX6_tryUndone_108 : decode cX6_tryUndone 108 = .ok (.if_icmp .ne 22, 3) := by decide +kernel
theorem dX6_tryUndone_130 : decode cX6_tryUndone 130 = .ok (.iinc 5 1, 3) := by decide +kernel
theorem dX6_tryUndone_133 : decode cX6_tryUndone 133 = .ok (.goto (-115), 3) := by decide +kernel
theorem dX6_tryUndone_111 : decode cX6_tryUndone 111 = .ok (.aload_n 0, 1) := by decide +kernel
theorem dX6_tryUndone_112 : decode cX6_tryUndone 112 = .ok (.iload_n 2, 1) := by decide +kernel
theorem dX6_tryUndone_113 : decode cX6_tryUndone 113 = .ok (.iload 5, 2) := by decide +kernel
theorem dX6_tryUndone_115 : decode cX6_tryUndone 115 = .ok (.iconst 1, 1) := by decide +kernel
theorem dX6_tryUndone_116 : decode cX6_tryUndone 116 = .ok (.iadd, 1) := by decide +kernel
theorem dX6_tryUndone_117 : decode cX6_tryUndone 117 = .ok (.iload_n 1, 1) := by decide +kernel
theorem dX6_tryUndone_118 : decode cX6_tryUndone 118 = .ok (.aload_n 0, 1) := by decide +kernel
theorem dX6_tryUndone_119 : decode cX6_tryUndone 119 = .ok (.getfield 56, 3) := by decide +kernel
theorem dX6_tryUndone_122 : decode cX6_tryUndone 122 = .ok (.bipush 32, 2) := by decide +kernel
set_option maxRecDepth 20000 in
theorem ggX6_tryUndone_X8_sumWith : GoodIn wsX6_tryUndone wsX8_sumWith := goodIn_r _ [159, 12, 86, 11, 123, 124, 125, 126, 127, 128, 129, 130, 131, 132, 133, 134, 135, 136, 137, 138, 139, 140, 141, 142, 143, 144, 186, 187, 188, 189, 190, 191, 204, 205, 206] rfl (by decide +kernel)
set_option maxRecDepth 20000 in
theorem gX6_tryUndone_X8_sumWith : GoodIn wsX6_tryUndone (wsV RX6 125 RX8 yX8_sumWith wsX8_sumWith) := goodIn_app (goodIn_r _ [156, 157, 158, 8] rfl (by decide +kernel)) ggX6_tryUndone_X8_sumWith
theorem dX6_tryUndone_124 : decode cX6_tryUndone 124 = .ok (.invokevirtual 125, 3) := by decide +kernel
set_option maxRecDepth 20000 in
theorem ggX6_tryUndone_X6_offer : GoodIn wsX6_tryUndone wsX6_offer := goodIn_r _ [164, 165, 166, 167, 168, 169, 170, 171, 172, 163, 173, 174, 175, 176, 177, 178, 179, 180, 181, 182, 183, 184, 185] rfl (by decide +kernel)
set_option maxRecDepth 20000 in
theorem gX6_tryUndone_X6_offer : GoodIn wsX6_tryUndone (wsV RX6 94 RX6 yX6_offer wsX6_offer) := goodIn_app (goodIn_r _ [160, 161, 162, 163] rfl (by decide +kernel)) ggX6_tryUndone_X6_offer
theorem dX6_tryUndone_127 : decode cX6_tryUndone 127 = .ok (.invokevirtual 94, 3) := by decide +kernel
theorem dX6_tryUndone_93 : decode cX6_tryUndone 93 = .ok (.return_, 1) := by decide +kernel
theorem dX6_tryUndone_53 : decode cX6_tryUndone 53 = .ok (.return_, 1) := by decide +kernel
theorem dX6_find_0 : decode cX6_find 0 = .ok (.aload_n 0, 1) := by decide +kernel
theorem dX6_find_1 : decode cX6_find 1 = .ok (.iload_n 2, 1) := by decide +kernel
theorem dX6_find_2 : decode cX6_find 2 = .ok (.putfield 60, 3) := by decide +kernel
theorem dX6_find_5 : decode cX6_find 5 = .ok (.aload_n 1, 1) := by decide +kernel
set_option maxRecDepth 20000 in
theorem ggX6_find_X5_length : GoodIn wsX6_find wsX5_length := goodIn_r _ [13, 14, 203, 204] rfl (by decide +kernel)
set_option maxRecDepth 20000 in
theorem gX6_find_X5_length : GoodIn wsX6_find (wsV RX6 64 RX5 yX5_length wsX5_length) := goodIn_app (goodIn_r _ [9, 10, 11, 12] rfl (by decide +kernel)) ggX6_find_X5_length
theorem dX6_find_6 : decode cX6_find 6 = .ok (.invokevirtual 64, 3) := by decide +kernel
theorem dX6_find_9 : decode cX6_find 9 = .ok (.bipush 60, 2) := by decide +kernel
theorem dX6_find_11 : decode cX6_find 11 = .ok (.invokestatic 68, 3) := by decide +kernel
theorem dX6_find_14 : decode cX6_find 14 = .ok (.istore_n 3, 1) := by decide +kernel
theorem dX6_find_15 : decode cX6_find 15 = .ok (.aload_n 0, 1) := by decide +kernel
theorem dX6_find_16 : decode cX6_find 16 = .ok (.getfield 26, 3) := by decide +kernel
theorem dX6_find_19 : decode cX6_find 19 = .ok (.iload_n 3, 1) := by decide +kernel
theorem dX6_find_20 : decode cX6_find 20 = .ok (.iconst 0, 1) := by decide +kernel
theorem dX6_find_21 : decode cX6_find 21 = .ok (.iastore, 1) := by decide +kernel
theorem dX6_find_22 : decode cX6_find 22 = .ok (.aload_n 0, 1) := by decide +kernel
theorem dX6_find_23 : decode cX6_find 23 = .ok (.getfield 30, 3) := by decide +kernel
theorem dX6_find_26 : decode cX6_find 26 = .ok (.iload_n 3, 1) := by decide +kernel
theorem dX6_find_27 : decode cX6_find 27 = .ok (.iconst 0, 1) := by decide +kernel
theorem dX6_find_28 : decode cX6_find 28 = .ok (.iastore, 1) := by decide +kernel
theorem dX6_find_29 : decode cX6_find 29 = .ok (.iload_n 3, 1) := by decide +kernel
theorem dX6_find_30 : decode cX6_find 30 = .ok (.iconst 1, 1) := by decide +kernel
theorem dX6_find_31 : decode cX6_find 31 = .ok (.isub, 1) := by decide +kernel
theorem dX6_find_32 : decode cX6_find 32 = .ok (.istore 4, 2) := by decide +kernel
theorem dX6_find_34 : decode cX6_find 34 = .ok (.iload 4, 2) := by decide +kernel
theorem dX6_find_36 : decode cX6_find 36 = .ok (.ifCond .lt 56, 3) := by decide +kernel
theorem dX6_find_92 : decode cX6_find 92 = .ok (.return_, 1) := by decide +kernel
theorem dX6_find_39 : decode cX6_find 39 = .ok (.aload_n 0, 1) := by decide +kernel
theorem dX6_find_40 : decode cX6_find 40 = .ok (.getfield 26, 3) := by decide +kernel
theorem dX6_find_43 : decode cX6_find 43 = .ok (.iload 4, 2) := by decide +kernel
theorem dX6_find_45 : decode cX6_find 45 = .ok (.iconst (-1), 1) := by decide +kernel
theorem dX6_find_46 : decode cX6_find 46 = .ok (.iastore, 1) := by decide +kernel
theorem dX6_find_47 : decode cX6_find 47 = .ok (.aload_n 0, 1) := by decide +kernel
theorem dX6_find_48 : decode cX6_find 48 = .ok (.iload 4, 2) := by decide +kernel
theorem dX6_find_50 : decode cX6_find 50 = .ok (.aload_n 1, 1) := by decide +kernel
theorem dX6_find_51 : decode cX6_find 51 = .ok (.iload_n 3, 1) := by decide +kernel
set_option maxRecDepth 20000 in
theorem ggX6_find_X6_tryAsItIs : GoodIn wsX6_find wsX6_tryAsItIs := goodIn_r _ [19, 20, 21, 22, 23, 12, 24, 14, 25, 26, 27, 28, 29, 30, 31, 32, 33, 34, 35, 36, 37, 38, 39, 40, 41, 42, 43, 44, 45, 46, 47, 48, 49, 50, 18, 51, 6, 7, 1, 52, 53, 54, 55, 56, 57, 191, 192, 193, 194, 195, 196, 197, 198, 199, 200, 201, 202, 203, 204, 205, 206, 207] rfl (by decide +kernel)
set_option maxRecDepth 20000 in
theorem gX6_find_X6_tryAsItIs : GoodIn wsX6_find (wsV RX6 74 RX6 yX6_tryAsItIs wsX6_tryAsItIs) := goodIn_app (goodIn_r _ [15, 16, 17, 18] rfl (by decide +kernel)) ggX6_find_X6_tryAsItIs
theorem dX6_find_52 : decode cX6_find 52 = .ok (.invokevirtual 74, 3) := by decide +kernel
theorem dX6_find_55 : decode cX6_find 55 = .ok (.iconst 0, 1) := by decide +kernel
theorem dX6_find_56 : decode cX6_find 56 = .ok (.istore 5, 2) := by decide +kernel
theorem dX6_find_58 : decode cX6_find 58 = .ok (.iload 5, 2) := by decide +kernel
theorem dX6_find_60 : decode cX6_find 60 = .ok (.aload_n 0, 1) := by decide +kernel
theorem dX6_find_61 : decode cX6_find 61 = .ok (.getfield 43, 3) := by decide +kernel
set_option maxRecDepth 20000 in
theorem ggX6_find_X4_length : GoodIn wsX6_find wsX4_length := goodIn_r _ [62, 63, 208, 209, 210, 211] rfl (by decide +kernel)
set_option maxRecDepth 20000 in
theorem gX6_find_X4_length : GoodIn wsX6_find (wsV RX6 78 RX4 yX4_length wsX4_length) := goodIn_app (goodIn_r _ [58, 59, 60, 61] rfl (by decide +kernel)) ggX6_find_X4_length
theorem dX6_find_64 : decode cX6_find 64 = .ok (.invokevirtual 78, 3) := by decide +kernel
theorem dX6_find_67 : decode cX6_find 67 = .ok (.if_icmp .ge 19, 3) := by decide +kernel
theorem dX6_find_86 : decode cX6_find 86 = .ok (.iinc 4 (-1), 3) := by decide +kernel
theorem dX6_find_89 : decode cX6_find 89 = .ok (.goto (-55), 3) := by decide +kernel
theorem dX6_find_70 : decode cX6_find 70 = .ok (.aload_n 0, 1) := by decide +kernel
theorem dX6_find_71 : decode cX6_find 71 = .ok (.iload 5, 2) := by decide +kernel
theorem dX6_find_73 : decode cX6_find 73 = .ok (.iload 4, 2) := by decide +kernel
theorem dX6_find_75 : decode cX6_find 75 = .ok (.aload_n 1, 1) := by decide +kernel
theorem dX6_find_76 : decode cX6_find 76 = .ok (.iload_n 3, 1) := by decide +kernel
set_option maxRecDepth 20000 in
theorem ggX6_find_X6_tryUndone : GoodIn wsX6_find wsX6_tryUndone := goodIn_r _ [67, 68, 69, 70, 8, 71, 72, 73, 74, 75, 76, 77, 78, 79, 80, 81, 82, 12, 83, 14, 84, 85, 86, 61, 87, 63, 88, 21, 22, 23, 24, 25, 89, 90, 91, 92, 93, 94, 95, 96, 97, 98, 99, 100, 101, 102, 103, 104, 105, 106, 107, 108, 109, 110, 111, 112, 113, 114, 115, 116, 117, 118, 119, 120, 121, 122, 123, 124, 125, 126, 127, 128, 129, 9, 10, 11, 13, 130, 131, 132, 133, 134, 135, 136, 137, 138, 139, 140, 141, 4, 142, 143, 144, 145, 146, 147, 148, 149, 150, 151, 152, 153, 154, 155, 156, 157, 158, 159, 160, 161, 162, 163, 164, 165, 166, 167, 168, 169, 170, 171, 172, 173, 174, 175, 27, 28, 29, 30, 31, 32, 33, 34, 35, 36, 37, 38, 39, 40, 41, 42, 43, 44, 45, 46, 47, 176, 177, 178, 179, 180, 181, 182, 183, 184, 185, 186, 187, 188, 189, 190, 48, 49, 50, 18, 51, 6, 7, 1, 52, 53, 54, 55, 56, 57, 191, 192, 193, 194, 195, 196, 197, 198, 199, 200, 201, 202, 212, 213, 214, 215, 216, 217, 203, 204, 208, 209, 210, 211, 218, 219, 220, 221, 222, 223, 205, 206, 207] rfl (by decide +kernel)
set_option maxRecDepth 20000 in
theorem gX6_find_X6_tryUndone : GoodIn wsX6_find (wsV RX6 81 RX6 yX6_tryUndone wsX6_tryUndone) := goodIn_app (goodIn_r _ [64, 65, 66, 18] rfl (by decide +kernel)) ggX6_find_X6_tryUndone
theorem dX6_find_77 : decode cX6_find 77 = .ok (.invokevirtual 81, 3) := by decide +kernel
theorem dX6_find_80 : decode cX6_find 80 = .ok (.iinc 5 1, 3) := by decide +kernel
theorem dX6_find_83 : decode cX6_find 83 = .ok (.goto (-25), 3) := by decide +kernel
theorem dX6_build_0 : decode cX6_build 0 = .ok (.aload_n 2, 1) := by decide +kernel
theorem dX6_build_1 : decode cX6_build 1 = .ok (.iconst 0, 1) := by decide +kernel
set_option maxRecDepth 20000 in
theorem ggX6_build_X5_cut : GoodIn wsX6_build wsX5_cut := goodIn_r _ [17, 18, 155, 156] rfl (by decide +kernel)
set_option maxRecDepth 20000 in
theorem gX6_build_X5_cut : GoodIn wsX6_build (wsV RX6 101 RX5 yX5_cut wsX5_cut) := goodIn_app (goodIn_r _ [13, 14, 15, 16] rfl (by decide +kernel)) ggX6_build_X5_cut
theorem dX6_build_2 : decode cX6_build 2 = .ok (.invokevirtual 101, 3) := by decide +kernel
theorem dX6_build_5 : decode cX6_build 5 = .ok (.aload_n 1, 1) := by decide +kernel
set_option maxRecDepth 20000 in
theorem ggX6_build_X5_length : GoodIn wsX6_build wsX5_length := goodIn_r _ [22, 18, 155, 156] rfl (by decide +kernel)
set_option maxRecDepth 20000 in
theorem gX6_build_X5_length : GoodIn wsX6_build (wsV RX6 64 RX5 yX5_length wsX5_length) := goodIn_app (goodIn_r _ [19, 20, 21, 16] rfl (by decide +kernel)) ggX6_build_X5_length
theorem dX6_build_6 : decode cX6_build 6 = .ok (.invokevirtual 64, 3) := by decide +kernel
theorem dX6_build_9 : decode cX6_build 9 = .ok (.bipush 60, 2) := by decide +kernel
theorem dX6_build_11 : decode cX6_build 11 = .ok (.invokestatic 68, 3) := by decide +kernel
theorem dX6_build_14 : decode cX6_build 14 = .ok (.istore_n 3, 1) := by decide +kernel
theorem dX6_build_15 : decode cX6_build 15 = .ok (.iconst 0, 1) := by decide +kernel
theorem dX6_build_16 : decode cX6_build 16 = .ok (.istore 4, 2) := by decide +kernel
theorem dX6_build_18 : decode cX6_build 18 = .ok (.iload 4, 2) := by decide +kernel
theorem dX6_build_20 : decode cX6_build 20 = .ok (.iload_n 3, 1) := by decide +kernel
theorem dX6_build_21 : decode cX6_build 21 = .ok (.if_icmp .ge 132, 3) := by decide +kernel
theorem dX6_build_153 : decode cX6_build 153 = .ok (.iconst 1, 1) := by decide +kernel
theorem dX6_build_154 : decode cX6_build 154 = .ok (.ireturn, 1) := by decide +kernel
theorem dX6_build_24 : decode cX6_build 24 = .ok (.aload_n 0, 1) := by decide +kernel
theorem dX6_build_25 : decode cX6_build 25 = .ok (.getfield 20, 3) := by decide +kernel
theorem dX6_build_28 : decode cX6_build 28 = .ok (.iconst 0, 1) := by decide +kernel
theorem dX6_build_29 : decode cX6_build 29 = .ok (.invokevirtual 101, 3) := by decide +kernel
theorem dX6_build_32 : decode cX6_build 32 = .ok (.iload 4, 2) := by decide +kernel
theorem dX6_build_34 : decode cX6_build 34 = .ok (.istore 5, 2) := by decide +kernel
theorem dX6_build_36 : decode cX6_build 36 = .ok (.iload 5, 2) := by decide +kernel
theorem dX6_build_38 : decode cX6_build 38 = .ok (.aload_n 0, 1) := by decide +kernel
theorem dX6_build_39 : decode cX6_build 39 = .ok (.getfield 33, 3) := by decide +kernel
theorem dX6_build_42 : decode cX6_build 42 = .ok (.iload 4, 2) := by decide +kernel
theorem dX6_build_44 : decode cX6_build 44 = .ok (.iaload, 1) := by decide +kernel
theorem dX6_build_45 : decode cX6_build 45 = .ok (.if_icmp .ge 23, 3) := by decide +kernel
theorem dX6_build_68 : decode cX6_build 68 = .ok (.aload_n 0, 1) := by decide +kernel
theorem dX6_build_69 : decode cX6_build 69 = .ok (.getfield 36, 3) := by decide +kernel
theorem dX6_build_72 : decode cX6_build 72 = .ok (.iload 4, 2) := by decide +kernel
theorem dX6_build_74 : decode cX6_build 74 = .ok (.iaload, 1) := by decide +kernel
theorem dX6_build_75 : decode cX6_build 75 = .ok (.iconst (-1), 1) := by decide +kernel
theorem dX6_build_76 : decode cX6_build 76 = .ok (.if_icmp .ne 18, 3) := by decide +kernel
theorem dX6_build_94 : decode cX6_build 94 = .ok (.aload_n 0, 1) := by decide +kernel
theorem dX6_build_95 : decode cX6_build 95 = .ok (.getfield 43, 3) := by decide +kernel
theorem dX6_build_98 : decode cX6_build 98 = .ok (.aload_n 0, 1) := by decide +kernel
theorem dX6_build_99 : decode cX6_build 99 = .ok (.getfield 36, 3) := by decide +kernel
theorem dX6_build_102 : decode cX6_build 102 = .ok (.iload 4, 2) := by decide +kernel
theorem dX6_build_104 : decode cX6_build 104 = .ok (.iaload, 1) := by decide +kernel
theorem dX6_build_105 : decode cX6_build 105 = .ok (.aload_n 0, 1) := by decide +kernel
theorem dX6_build_106 : decode cX6_build 106 = .ok (.getfield 20, 3) := by decide +kernel
theorem dX6_build_109 : decode cX6_build 109 = .ok (.aload_n 0, 1) := by decide +kernel
theorem dX6_build_110 : decode cX6_build 110 = .ok (.getfield 23, 3) := by decide +kernel
set_option maxRecDepth 20000 in
theorem ggX6_build_X4_takeOff : GoodIn wsX6_build wsX4_takeOff := goodIn_r _ [48, 49, 50, 51, 52, 53, 54, 55, 56, 57, 58, 59, 60, 61, 62, 63, 64, 65, 14, 15, 16, 17, 18, 66, 20, 21, 22, 67, 24, 25, 26, 27, 68, 69, 70, 71, 72, 73, 29, 30, 31, 74, 75, 76, 77, 78, 79, 80, 81, 82, 83, 84, 85, 86, 87, 88, 89, 90, 91, 92, 93, 94, 95, 96, 97, 98, 99, 100, 101, 102, 103, 104, 105, 11, 3, 12, 106, 107, 108, 109, 110, 111, 112, 113, 114, 115, 116, 117, 118, 119, 120, 121, 122, 123, 124, 125, 126, 127, 128, 129, 130, 131, 132, 133, 134, 135, 136, 137, 138, 139, 140, 141, 157, 158, 159, 160, 161, 162, 163, 155, 156, 164, 165, 166, 167, 168, 169] rfl (by decide +kernel)
set_option maxRecDepth 20000 in
theorem gX6_build_X4_takeOff : GoodIn wsX6_build (wsV RX6 140 RX4 yX4_takeOff wsX4_takeOff) := goodIn_app (goodIn_r _ [44, 45, 46, 47] rfl (by decide +kernel)) ggX6_build_X4_takeOff
theorem dX6_build_113 : decode cX6_build 113 = .ok (.invokevirtual 140, 3) := by decide +kernel
theorem dX6_build_116 : decode cX6_build 116 = .ok (.ifCond .ne 5, 3) := by decide +kernel
theorem dX6_build_121 : decode cX6_build 121 = .ok (.aload_n 2, 1) := by decide +kernel
theorem dX6_build_122 : decode cX6_build 122 = .ok (.aload_n 0, 1) := by decide +kernel
theorem dX6_build_123 : decode cX6_build 123 = .ok (.getfield 23, 3) := by decide +kernel
set_option maxRecDepth 20000 in
theorem ggX6_build_X5_addAll : GoodIn wsX6_build wsX5_addAll := goodIn_r _ [39, 18, 27, 40, 41, 42, 43, 155, 156] rfl (by decide +kernel)
set_option maxRecDepth 20000 in
theorem gX6_build_X5_addAll : GoodIn wsX6_build (wsV RX6 144 RX5 yX5_addAll wsX5_addAll) := goodIn_app (goodIn_r _ [142, 37, 38, 16] rfl (by decide +kernel)) ggX6_build_X5_addAll
theorem dX6_build_126 : decode cX6_build 126 = .ok (.invokevirtual 144, 3) := by decide +kernel
theorem dX6_build_129 : decode cX6_build 129 = .ok (.ifCond .ne 5, 3) := by decide +kernel
theorem dX6_build_134 : decode cX6_build 134 = .ok (.iload 4, 2) := by decide +kernel
theorem dX6_build_136 : decode cX6_build 136 = .ok (.iconst 1, 1) := by decide +kernel
theorem dX6_build_137 : decode cX6_build 137 = .ok (.iadd, 1) := by decide +kernel
theorem dX6_build_138 : decode cX6_build 138 = .ok (.aload_n 0, 1) := by decide +kernel
theorem dX6_build_139 : decode cX6_build 139 = .ok (.getfield 33, 3) := by decide +kernel
theorem dX6_build_142 : decode cX6_build 142 = .ok (.iload 4, 2) := by decide +kernel
theorem dX6_build_144 : decode cX6_build 144 = .ok (.iaload, 1) := by decide +kernel
theorem dX6_build_145 : decode cX6_build 145 = .ok (.invokestatic 147, 3) := by decide +kernel
theorem dX6_build_148 : decode cX6_build 148 = .ok (.istore 4, 2) := by decide +kernel
theorem dX6_build_150 : decode cX6_build 150 = .ok (.goto (-132), 3) := by decide +kernel
theorem dX6_build_132 : decode cX6_build 132 = .ok (.iconst 0, 1) := by decide +kernel
theorem dX6_build_133 : decode cX6_build 133 = .ok (.ireturn, 1) := by decide +kernel
theorem dX6_build_119 : decode cX6_build 119 = .ok (.iconst 0, 1) := by decide +kernel
theorem dX6_build_120 : decode cX6_build 120 = .ok (.ireturn, 1) := by decide +kernel
theorem dX6_build_79 : decode cX6_build 79 = .ok (.aload_n 0, 1) := by decide +kernel
theorem dX6_build_80 : decode cX6_build 80 = .ok (.getfield 23, 3) := by decide +kernel
theorem dX6_build_83 : decode cX6_build 83 = .ok (.aload_n 0, 1) := by decide +kernel
theorem dX6_build_84 : decode cX6_build 84 = .ok (.getfield 20, 3) := by decide +kernel
set_option maxRecDepth 20000 in
theorem ggX6_build_X5_takeAll : GoodIn wsX6_build wsX5_takeAll := goodIn_r _ [35, 18, 36, 37, 38, 16, 39, 27, 40, 41, 42, 43, 155, 156] rfl (by decide +kernel)
set_option maxRecDepth 20000 in
theorem gX6_build_X5_takeAll : GoodIn wsX6_build (wsV RX6 136 RX5 yX5_takeAll wsX5_takeAll) := goodIn_app (goodIn_r _ [32, 33, 34, 16] rfl (by decide +kernel)) ggX6_build_X5_takeAll
theorem dX6_build_87 : decode cX6_build 87 = .ok (.invokevirtual 136, 3) := by decide +kernel
theorem dX6_build_90 : decode cX6_build 90 = .ok (.pop, 1) := by decide +kernel
theorem dX6_build_91 : decode cX6_build 91 = .ok (.goto 30, 3) := by decide +kernel
theorem dX6_build_48 : decode cX6_build 48 = .ok (.aload_n 0, 1) := by decide +kernel
theorem dX6_build_49 : decode cX6_build 49 = .ok (.getfield 20, 3) := by decide +kernel
theorem dX6_build_52 : decode cX6_build 52 = .ok (.aload_n 1, 1) := by decide +kernel
theorem dX6_build_53 : decode cX6_build 53 = .ok (.iload 5, 2) := by decide +kernel
set_option maxRecDepth 20000 in
theorem ggX6_build_X5_get : GoodIn wsX6_build wsX5_get := goodIn_r _ [26, 18, 27, 155, 156] rfl (by decide +kernel)
set_option maxRecDepth 20000 in
theorem gX6_build_X5_get : GoodIn wsX6_build (wsV RX6 85 RX5 yX5_get wsX5_get) := goodIn_app (goodIn_r _ [23, 24, 25, 16] rfl (by decide +kernel)) ggX6_build_X5_get
theorem dX6_build_55 : decode cX6_build 55 = .ok (.invokevirtual 85, 3) := by decide +kernel
set_option maxRecDepth 20000 in
theorem ggX6_build_X5_add : GoodIn wsX6_build wsX5_add := goodIn_r _ [31, 18, 27, 155, 156] rfl (by decide +kernel)
set_option maxRecDepth 20000 in
theorem gX6_build_X5_add : GoodIn wsX6_build (wsV RX6 132 RX5 yX5_add wsX5_add) := goodIn_app (goodIn_r _ [28, 29, 30, 16] rfl (by decide +kernel)) ggX6_build_X5_add
theorem dX6_build_58 : decode cX6_build 58 = .ok (.invokevirtual 132, 3) := by decide +kernel
theorem dX6_build_61 : decode cX6_build 61 = .ok (.pop, 1) := by decide +kernel
theorem dX6_build_62 : decode cX6_build 62 = .ok (.iinc 5 1, 3) := by decide +kernel
theorem dX6_build_65 : decode cX6_build 65 = .ok (.goto (-29), 3) := by decide +kernel
