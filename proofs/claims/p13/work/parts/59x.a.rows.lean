theorem dX8_step_0 : decode cX8_step 0 = .ok (.aload_n 0, 1) := by decide +kernel
theorem dX8_step_1 : decode cX8_step 1 = .ok (.getfield 9, 3) := by decide +kernel
theorem dX8_step_4 : decode cX8_step 4 = .ok (.iload_n 1, 1) := by decide +kernel
theorem dX8_step_5 : decode cX8_step 5 = .ok (.aload_n 2, 1) := by decide +kernel
theorem dX8_step_6 : decode cX8_step 6 = .ok (.aload_n 0, 1) := by decide +kernel
theorem dX8_step_7 : decode cX8_step 7 = .ok (.getfield 19, 3) := by decide +kernel
theorem dX8_step_10 : decode cX8_step 10 = .ok (.iload_n 3, 1) := by decide +kernel
set_option maxRecDepth 20000 in
theorem ggX8_step_X2_decode : GoodIn wsX8_step wsX2_decode := goodIn_r _ [15, 16, 17, 18, 19, 20, 21, 22, 23, 24, 25, 14, 26, 27, 28, 29, 30, 31, 32, 33, 34, 35, 36, 37, 38, 39, 40, 41, 42, 43, 44, 45, 46, 47, 48, 49, 50, 51, 52, 53, 54, 55, 56, 91, 92, 93, 94, 95, 96, 97, 98] rfl (by decide +kernel)
set_option maxRecDepth 20000 in
theorem gX8_step_X2_decode : GoodIn wsX8_step (wsV RX8 32 RX2 yX2_decode wsX2_decode) := goodIn_app (goodIn_r _ [11, 12, 13, 14] rfl (by decide +kernel)) ggX8_step_X2_decode
theorem dX8_step_11 : decode cX8_step 11 = .ok (.invokevirtual 32, 3) := by decide +kernel
theorem dX8_step_14 : decode cX8_step 14 = .ok (.istore 4, 2) := by decide +kernel
theorem dX8_step_16 : decode cX8_step 16 = .ok (.iload 4, 2) := by decide +kernel
theorem dX8_step_18 : decode cX8_step 18 = .ok (.iconst (-1), 1) := by decide +kernel
theorem dX8_step_19 : decode cX8_step 19 = .ok (.if_icmp .ne 5, 3) := by decide +kernel
theorem dX8_step_24 : decode cX8_step 24 = .ok (.iload 4, 2) := by decide +kernel
set_option maxRecDepth 20000 in
theorem ggX8_step_X2_letterIn : GoodIn wsX8_step wsX2_letterIn := goodIn_r _ [59] rfl (by decide +kernel)
set_option maxRecDepth 20000 in
theorem gX8_step_X2_letterIn : GoodIn wsX8_step (va_wsS RX8 38 yX2_letterIn wsX2_letterIn) := goodIn_app (goodIn_r _ [57, 58, 14] rfl (by decide +kernel)) ggX8_step_X2_letterIn
theorem dX8_step_26 : decode cX8_step 26 = .ok (.invokestatic 38, 3) := by decide +kernel
theorem dX8_step_29 : decode cX8_step 29 = .ok (.istore 5, 2) := by decide +kernel
theorem dX8_step_31 : decode cX8_step 31 = .ok (.aload_n 0, 1) := by decide +kernel
theorem dX8_step_32 : decode cX8_step 32 = .ok (.dup, 1) := by decide +kernel
theorem dX8_step_33 : decode cX8_step 33 = .ok (.getfield 26, 3) := by decide +kernel
theorem dX8_step_36 : decode cX8_step 36 = .ok (.aload_n 0, 1) := by decide +kernel
theorem dX8_step_37 : decode cX8_step 37 = .ok (.getfield 15, 3) := by decide +kernel
theorem dX8_step_40 : decode cX8_step 40 = .ok (.aload_n 0, 1) := by decide +kernel
theorem dX8_step_41 : decode cX8_step 41 = .ok (.getfield 23, 3) := by decide +kernel
theorem dX8_step_44 : decode cX8_step 44 = .ok (.iload 5, 2) := by decide +kernel
set_option maxRecDepth 20000 in
theorem ggX8_step_X3_of : GoodIn wsX8_step wsX3_of := goodIn_r _ [64, 65, 66, 67, 68, 69, 63, 70, 71, 72, 73, 74, 75, 76, 77, 78, 79, 80, 81, 99, 100, 101] rfl (by decide +kernel)
set_option maxRecDepth 20000 in
theorem gX8_step_X3_of : GoodIn wsX8_step (wsV RX8 42 RX3 yX3_of wsX3_of) := goodIn_app (goodIn_r _ [60, 61, 62, 63] rfl (by decide +kernel)) ggX8_step_X3_of
theorem dX8_step_46 : decode cX8_step 46 = .ok (.invokevirtual 42, 3) := by decide +kernel
theorem dX8_step_49 : decode cX8_step 49 = .ok (.iadd, 1) := by decide +kernel
theorem dX8_step_50 : decode cX8_step 50 = .ok (.putfield 26, 3) := by decide +kernel
theorem dX8_step_53 : decode cX8_step 53 = .ok (.aload_n 0, 1) := by decide +kernel
theorem dX8_step_54 : decode cX8_step 54 = .ok (.iload 5, 2) := by decide +kernel
theorem dX8_step_56 : decode cX8_step 56 = .ok (.putfield 23, 3) := by decide +kernel
theorem dX8_step_59 : decode cX8_step 59 = .ok (.aload_n 0, 1) := by decide +kernel
theorem dX8_step_60 : decode cX8_step 60 = .ok (.dup, 1) := by decide +kernel
theorem dX8_step_61 : decode cX8_step 61 = .ok (.getfield 29, 3) := by decide +kernel
theorem dX8_step_64 : decode cX8_step 64 = .ok (.iconst 1, 1) := by decide +kernel
theorem dX8_step_65 : decode cX8_step 65 = .ok (.iadd, 1) := by decide +kernel
theorem dX8_step_66 : decode cX8_step 66 = .ok (.putfield 29, 3) := by decide +kernel
theorem dX8_step_69 : decode cX8_step 69 = .ok (.aload_n 0, 1) := by decide +kernel
theorem dX8_step_70 : decode cX8_step 70 = .ok (.dup, 1) := by decide +kernel
theorem dX8_step_71 : decode cX8_step 71 = .ok (.getfield 19, 3) := by decide +kernel
theorem dX8_step_74 : decode cX8_step 74 = .ok (.iconst 1, 1) := by decide +kernel
theorem dX8_step_75 : decode cX8_step 75 = .ok (.iload 4, 2) := by decide +kernel
set_option maxRecDepth 20000 in
theorem ggX8_step_X2_bytesIn : GoodIn wsX8_step wsX2_bytesIn := goodIn_r _ [84] rfl (by decide +kernel)
set_option maxRecDepth 20000 in
theorem gX8_step_X2_bytesIn : GoodIn wsX8_step (va_wsS RX8 48 yX2_bytesIn wsX2_bytesIn) := goodIn_app (goodIn_r _ [82, 83, 14] rfl (by decide +kernel)) ggX8_step_X2_bytesIn
theorem dX8_step_77 : decode cX8_step 77 = .ok (.invokestatic 48, 3) := by decide +kernel
theorem dX8_step_80 : decode cX8_step 80 = .ok (.invokestatic 51, 3) := by decide +kernel
theorem dX8_step_83 : decode cX8_step 83 = .ok (.iadd, 1) := by decide +kernel
theorem dX8_step_84 : decode cX8_step 84 = .ok (.putfield 19, 3) := by decide +kernel
theorem dX8_step_87 : decode cX8_step 87 = .ok (.iconst 1, 1) := by decide +kernel
theorem dX8_step_88 : decode cX8_step 88 = .ok (.ireturn, 1) := by decide +kernel
theorem dX8_step_22 : decode cX8_step 22 = .ok (.iconst 0, 1) := by decide +kernel
theorem dX8_step_23 : decode cX8_step 23 = .ok (.ireturn, 1) := by decide +kernel
theorem dX8_goOn_0 : decode cX8_goOn 0 = .ok (.iload_n 3, 1) := by decide +kernel
theorem dX8_goOn_1 : decode cX8_goOn 1 = .ok (.aload_n 0, 1) := by decide +kernel
theorem dX8_goOn_2 : decode cX8_goOn 2 = .ok (.getfield 19, 3) := by decide +kernel
theorem dX8_goOn_5 : decode cX8_goOn 5 = .ok (.isub, 1) := by decide +kernel
theorem dX8_goOn_6 : decode cX8_goOn 6 = .ok (.istore 4, 2) := by decide +kernel
theorem dX8_goOn_8 : decode cX8_goOn 8 = .ok (.iconst 0, 1) := by decide +kernel
theorem dX8_goOn_9 : decode cX8_goOn 9 = .ok (.istore 5, 2) := by decide +kernel
theorem dX8_goOn_11 : decode cX8_goOn 11 = .ok (.iload 5, 2) := by decide +kernel
theorem dX8_goOn_13 : decode cX8_goOn 13 = .ok (.iload 4, 2) := by decide +kernel
theorem dX8_goOn_15 : decode cX8_goOn 15 = .ok (.if_icmp .ge 20, 3) := by decide +kernel
theorem dX8_goOn_35 : decode cX8_goOn 35 = .ok (.return_, 1) := by decide +kernel
theorem dX8_goOn_18 : decode cX8_goOn 18 = .ok (.aload_n 0, 1) := by decide +kernel
theorem dX8_goOn_19 : decode cX8_goOn 19 = .ok (.iload_n 1, 1) := by decide +kernel
theorem dX8_goOn_20 : decode cX8_goOn 20 = .ok (.aload_n 2, 1) := by decide +kernel
theorem dX8_goOn_21 : decode cX8_goOn 21 = .ok (.iload_n 3, 1) := by decide +kernel
set_option maxRecDepth 20000 in
theorem ggX8_goOn_X8_step : GoodIn wsX8_goOn wsX8_step := goodIn_r _ [6, 7, 1, 8, 9, 10, 11, 12, 13, 14, 15, 16, 17, 18, 19, 20, 21, 22, 23, 24, 25, 26, 27, 28, 29, 30, 31, 32, 33, 34, 35, 36, 37, 38, 39, 40, 41, 42, 43, 44, 45, 46, 47, 48, 49, 50, 51, 52, 53, 54, 55, 56, 57, 58, 59, 60, 61, 62, 63, 64, 65, 66, 67, 68, 69, 70, 71, 72, 73, 74, 75, 76, 77, 78, 79, 80, 81, 82, 83, 84, 85, 86, 87, 88, 89, 90, 91, 92, 93, 94, 95, 96, 97, 98, 99, 100, 101, 102, 103, 104, 105, 106] rfl (by decide +kernel)
set_option maxRecDepth 20000 in
theorem gX8_goOn_X8_step : GoodIn wsX8_goOn (wsV RX8 56 RX8 yX8_step wsX8_step) := goodIn_app (goodIn_r _ [2, 3, 4, 5] rfl (by decide +kernel)) ggX8_goOn_X8_step
theorem dX8_goOn_22 : decode cX8_goOn 22 = .ok (.invokevirtual 56, 3) := by decide +kernel
theorem dX8_goOn_25 : decode cX8_goOn 25 = .ok (.ifCond .ne 4, 3) := by decide +kernel
theorem dX8_goOn_29 : decode cX8_goOn 29 = .ok (.iinc 5 1, 3) := by decide +kernel
theorem dX8_goOn_32 : decode cX8_goOn 32 = .ok (.goto (-21), 3) := by decide +kernel
theorem dX8_goOn_28 : decode cX8_goOn 28 = .ok (.return_, 1) := by decide +kernel
theorem dX8_sumWith_0 : decode cX8_sumWith 0 = .ok (.aload_n 0, 1) := by decide +kernel
theorem dX8_sumWith_1 : decode cX8_sumWith 1 = .ok (.getfield 26, 3) := by decide +kernel
theorem dX8_sumWith_4 : decode cX8_sumWith 4 = .ok (.aload_n 0, 1) := by decide +kernel
theorem dX8_sumWith_5 : decode cX8_sumWith 5 = .ok (.getfield 15, 3) := by decide +kernel
theorem dX8_sumWith_8 : decode cX8_sumWith 8 = .ok (.aload_n 0, 1) := by decide +kernel
theorem dX8_sumWith_9 : decode cX8_sumWith 9 = .ok (.getfield 23, 3) := by decide +kernel
theorem dX8_sumWith_12 : decode cX8_sumWith 12 = .ok (.iload_n 1, 1) := by decide +kernel
set_option maxRecDepth 20000 in
theorem ggX8_sumWith_X3_of : GoodIn wsX8_sumWith wsX3_of := goodIn_r _ [8, 9, 10, 11, 12, 13, 7, 14, 15, 16, 17, 18, 19, 20, 21, 22, 23, 24, 25, 32, 33, 34] rfl (by decide +kernel)
set_option maxRecDepth 20000 in
theorem gX8_sumWith_X3_of : GoodIn wsX8_sumWith (wsV RX8 42 RX3 yX3_of wsX3_of) := goodIn_app (goodIn_r _ [4, 5, 6, 7] rfl (by decide +kernel)) ggX8_sumWith_X3_of
theorem dX8_sumWith_13 : decode cX8_sumWith 13 = .ok (.invokevirtual 42, 3) := by decide +kernel
theorem dX8_sumWith_16 : decode cX8_sumWith 16 = .ok (.iadd, 1) := by decide +kernel
theorem dX8_sumWith_17 : decode cX8_sumWith 17 = .ok (.ireturn, 1) := by decide +kernel
theorem dX8_begin_0 : decode cX8_begin 0 = .ok (.aload_n 0, 1) := by decide +kernel
theorem dX8_begin_1 : decode cX8_begin 1 = .ok (.iconst 0, 1) := by decide +kernel
theorem dX8_begin_2 : decode cX8_begin 2 = .ok (.putfield 19, 3) := by decide +kernel
theorem dX8_begin_5 : decode cX8_begin 5 = .ok (.aload_n 0, 1) := by decide +kernel
theorem dX8_begin_6 : decode cX8_begin 6 = .ok (.bipush 32, 2) := by decide +kernel
theorem dX8_begin_8 : decode cX8_begin 8 = .ok (.putfield 23, 3) := by decide +kernel
theorem dX8_begin_11 : decode cX8_begin 11 = .ok (.aload_n 0, 1) := by decide +kernel
theorem dX8_begin_12 : decode cX8_begin 12 = .ok (.iconst 0, 1) := by decide +kernel
theorem dX8_begin_13 : decode cX8_begin 13 = .ok (.putfield 26, 3) := by decide +kernel
theorem dX8_begin_16 : decode cX8_begin 16 = .ok (.aload_n 0, 1) := by decide +kernel
theorem dX8_begin_17 : decode cX8_begin 17 = .ok (.iconst 0, 1) := by decide +kernel
theorem dX8_begin_18 : decode cX8_begin 18 = .ok (.putfield 29, 3) := by decide +kernel
theorem dX8_begin_21 : decode cX8_begin 21 = .ok (.return_, 1) := by decide +kernel
theorem dX8_takeAll_0 : decode cX8_takeAll 0 = .ok (.aload_n 0, 1) := by decide +kernel
theorem dX8_takeAll_1 : decode cX8_takeAll 1 = .ok (.aload_n 1, 1) := by decide +kernel
theorem dX8_takeAll_2 : decode cX8_takeAll 2 = .ok (.getfield 19, 3) := by decide +kernel
theorem dX8_takeAll_5 : decode cX8_takeAll 5 = .ok (.putfield 19, 3) := by decide +kernel
theorem dX8_takeAll_8 : decode cX8_takeAll 8 = .ok (.aload_n 0, 1) := by decide +kernel
theorem dX8_takeAll_9 : decode cX8_takeAll 9 = .ok (.aload_n 1, 1) := by decide +kernel
theorem dX8_takeAll_10 : decode cX8_takeAll 10 = .ok (.getfield 23, 3) := by decide +kernel
theorem dX8_takeAll_13 : decode cX8_takeAll 13 = .ok (.putfield 23, 3) := by decide +kernel
theorem dX8_takeAll_16 : decode cX8_takeAll 16 = .ok (.aload_n 0, 1) := by decide +kernel
theorem dX8_takeAll_17 : decode cX8_takeAll 17 = .ok (.aload_n 1, 1) := by decide +kernel
theorem dX8_takeAll_18 : decode cX8_takeAll 18 = .ok (.getfield 26, 3) := by decide +kernel
theorem dX8_takeAll_21 : decode cX8_takeAll 21 = .ok (.putfield 26, 3) := by decide +kernel
theorem dX8_takeAll_24 : decode cX8_takeAll 24 = .ok (.aload_n 0, 1) := by decide +kernel
theorem dX8_takeAll_25 : decode cX8_takeAll 25 = .ok (.aload_n 1, 1) := by decide +kernel
theorem dX8_takeAll_26 : decode cX8_takeAll 26 = .ok (.getfield 29, 3) := by decide +kernel
theorem dX8_takeAll_29 : decode cX8_takeAll 29 = .ok (.putfield 29, 3) := by decide +kernel
theorem dX8_takeAll_32 : decode cX8_takeAll 32 = .ok (.return_, 1) := by decide +kernel
theorem dX4_writtenIn_0 : decode cX4_writtenIn 0 = .ok (.iload_n 1, 1) := by decide +kernel
theorem dX4_writtenIn_1 : decode cX4_writtenIn 1 = .ok (.ifCond .lt 20, 3) := by decide +kernel
theorem dX4_writtenIn_4 : decode cX4_writtenIn 4 = .ok (.iload_n 1, 1) := by decide +kernel
theorem dX4_writtenIn_5 : decode cX4_writtenIn 5 = .ok (.aload_n 0, 1) := by decide +kernel
theorem dX4_writtenIn_6 : decode cX4_writtenIn 6 = .ok (.getfield 22, 3) := by decide +kernel
theorem dX4_writtenIn_9 : decode cX4_writtenIn 9 = .ok (.if_icmp .ge 12, 3) := by decide +kernel
theorem dX4_writtenIn_12 : decode cX4_writtenIn 12 = .ok (.aload_n 0, 1) := by decide +kernel
theorem dX4_writtenIn_13 : decode cX4_writtenIn 13 = .ok (.getfield 9, 3) := by decide +kernel
theorem dX4_writtenIn_16 : decode cX4_writtenIn 16 = .ok (.iload_n 1, 1) := by decide +kernel
theorem dX4_writtenIn_17 : decode cX4_writtenIn 17 = .ok (.iaload, 1) := by decide +kernel
theorem dX4_writtenIn_18 : decode cX4_writtenIn 18 = .ok (.goto 4, 3) := by decide +kernel
theorem dX4_writtenIn_22 : decode cX4_writtenIn 22 = .ok (.ireturn, 1) := by decide +kernel
theorem dX4_readIn_0 : decode cX4_readIn 0 = .ok (.iload_n 1, 1) := by decide +kernel
theorem dX4_readIn_1 : decode cX4_readIn 1 = .ok (.ifCond .lt 20, 3) := by decide +kernel
theorem dX4_readIn_4 : decode cX4_readIn 4 = .ok (.iload_n 1, 1) := by decide +kernel
theorem dX4_readIn_5 : decode cX4_readIn 5 = .ok (.aload_n 0, 1) := by decide +kernel
theorem dX4_readIn_6 : decode cX4_readIn 6 = .ok (.getfield 22, 3) := by decide +kernel
theorem dX4_readIn_9 : decode cX4_readIn 9 = .ok (.if_icmp .ge 12, 3) := by decide +kernel
theorem dX4_readIn_12 : decode cX4_readIn 12 = .ok (.aload_n 0, 1) := by decide +kernel
theorem dX4_readIn_13 : decode cX4_readIn 13 = .ok (.getfield 15, 3) := by decide +kernel
theorem dX4_readIn_16 : decode cX4_readIn 16 = .ok (.iload_n 1, 1) := by decide +kernel
theorem dX4_readIn_17 : decode cX4_readIn 17 = .ok (.iaload, 1) := by decide +kernel
theorem dX4_readIn_18 : decode cX4_readIn 18 = .ok (.goto 4, 3) := by decide +kernel
theorem dX4_readIn_22 : decode cX4_readIn 22 = .ok (.ireturn, 1) := by decide +kernel
theorem dX6_isBetter_0 : decode cX6_isBetter 0 = .ok (.iload_n 2, 1) := by decide +kernel
theorem dX6_isBetter_1 : decode cX6_isBetter 1 = .ok (.aload_n 0, 1) := by decide +kernel
theorem dX6_isBetter_2 : decode cX6_isBetter 2 = .ok (.getfield 26, 3) := by decide +kernel
theorem dX6_isBetter_5 : decode cX6_isBetter 5 = .ok (.iload_n 1, 1) := by decide +kernel
theorem dX6_isBetter_6 : decode cX6_isBetter 6 = .ok (.iaload, 1) := by decide +kernel
theorem dX6_isBetter_7 : decode cX6_isBetter 7 = .ok (.if_icmp .eq 19, 3) := by decide +kernel
theorem dX6_isBetter_26 : decode cX6_isBetter 26 = .ok (.iload_n 3, 1) := by decide +kernel
theorem dX6_isBetter_27 : decode cX6_isBetter 27 = .ok (.aload_n 0, 1) := by decide +kernel
theorem dX6_isBetter_28 : decode cX6_isBetter 28 = .ok (.getfield 30, 3) := by decide +kernel
theorem dX6_isBetter_31 : decode cX6_isBetter 31 = .ok (.iload_n 1, 1) := by decide +kernel
theorem dX6_isBetter_32 : decode cX6_isBetter 32 = .ok (.iaload, 1) := by decide +kernel
theorem dX6_isBetter_33 : decode cX6_isBetter 33 = .ok (.if_icmp .eq 19, 3) := by decide +kernel
theorem dX6_isBetter_52 : decode cX6_isBetter 52 = .ok (.iload 4, 2) := by decide +kernel
theorem dX6_isBetter_54 : decode cX6_isBetter 54 = .ok (.aload_n 0, 1) := by decide +kernel
theorem dX6_isBetter_55 : decode cX6_isBetter 55 = .ok (.getfield 33, 3) := by decide +kernel
theorem dX6_isBetter_58 : decode cX6_isBetter 58 = .ok (.iload_n 1, 1) := by decide +kernel
theorem dX6_isBetter_59 : decode cX6_isBetter 59 = .ok (.iaload, 1) := by decide +kernel
theorem dX6_isBetter_60 : decode cX6_isBetter 60 = .ok (.if_icmp .le 7, 3) := by decide +kernel
theorem dX6_isBetter_67 : decode cX6_isBetter 67 = .ok (.iconst 0, 1) := by decide +kernel
theorem dX6_isBetter_68 : decode cX6_isBetter 68 = .ok (.ireturn, 1) := by decide +kernel
theorem dX6_isBetter_63 : decode cX6_isBetter 63 = .ok (.iconst 1, 1) := by decide +kernel
theorem dX6_isBetter_64 : decode cX6_isBetter 64 = .ok (.goto 4, 3) := by decide +kernel
theorem dX6_isBetter_36 : decode cX6_isBetter 36 = .ok (.iload_n 3, 1) := by decide +kernel
theorem dX6_isBetter_37 : decode cX6_isBetter 37 = .ok (.aload_n 0, 1) := by decide +kernel
theorem dX6_isBetter_38 : decode cX6_isBetter 38 = .ok (.getfield 30, 3) := by decide +kernel
theorem dX6_isBetter_41 : decode cX6_isBetter 41 = .ok (.iload_n 1, 1) := by decide +kernel
theorem dX6_isBetter_42 : decode cX6_isBetter 42 = .ok (.iaload, 1) := by decide +kernel
theorem dX6_isBetter_43 : decode cX6_isBetter 43 = .ok (.if_icmp .ge 7, 3) := by decide +kernel
theorem dX6_isBetter_50 : decode cX6_isBetter 50 = .ok (.iconst 0, 1) := by decide +kernel
theorem dX6_isBetter_51 : decode cX6_isBetter 51 = .ok (.ireturn, 1) := by decide +kernel
theorem dX6_isBetter_46 : decode cX6_isBetter 46 = .ok (.iconst 1, 1) := by decide +kernel
theorem dX6_isBetter_47 : decode cX6_isBetter 47 = .ok (.goto 4, 3) := by decide +kernel
theorem dX6_isBetter_10 : decode cX6_isBetter 10 = .ok (.iload_n 2, 1) := by decide +kernel
theorem dX6_isBetter_11 : decode cX6_isBetter 11 = .ok (.aload_n 0, 1) := by decide +kernel
theorem dX6_isBetter_12 : decode cX6_isBetter 12 = .ok (.getfield 26, 3) := by decide +kernel
theorem dX6_isBetter_15 : decode cX6_isBetter 15 = .ok (.iload_n 1, 1) := by decide +kernel
theorem dX6_isBetter_16 : decode cX6_isBetter 16 = .ok (.iaload, 1) := by decide +kernel
theorem dX6_isBetter_17 : decode cX6_isBetter 17 = .ok (.if_icmp .ge 7, 3) := by decide +kernel
theorem dX6_isBetter_24 : decode cX6_isBetter 24 = .ok (.iconst 0, 1) := by decide +kernel
theorem dX6_isBetter_25 : decode cX6_isBetter 25 = .ok (.ireturn, 1) := by decide +kernel
theorem dX6_isBetter_20 : decode cX6_isBetter 20 = .ok (.iconst 1, 1) := by decide +kernel
theorem dX6_isBetter_21 : decode cX6_isBetter 21 = .ok (.goto 4, 3) := by decide +kernel
theorem dX6_offer_0 : decode cX6_offer 0 = .ok (.iload_n 1, 1) := by decide +kernel
theorem dX6_offer_1 : decode cX6_offer 1 = .ok (.ifCond .lt 14, 3) := by decide +kernel
theorem dX6_offer_4 : decode cX6_offer 4 = .ok (.iload_n 2, 1) := by decide +kernel
theorem dX6_offer_5 : decode cX6_offer 5 = .ok (.iload_n 1, 1) := by decide +kernel
theorem dX6_offer_6 : decode cX6_offer 6 = .ok (.if_icmp .le 9, 3) := by decide +kernel
theorem dX6_offer_9 : decode cX6_offer 9 = .ok (.iload_n 2, 1) := by decide +kernel
theorem dX6_offer_10 : decode cX6_offer 10 = .ok (.bipush 60, 2) := by decide +kernel
theorem dX6_offer_12 : decode cX6_offer 12 = .ok (.if_icmp .le 4, 3) := by decide +kernel
theorem dX6_offer_16 : decode cX6_offer 16 = .ok (.iload 4, 2) := by decide +kernel
theorem dX6_offer_18 : decode cX6_offer 18 = .ok (.aload_n 0, 1) := by decide +kernel
theorem dX6_offer_19 : decode cX6_offer 19 = .ok (.getfield 26, 3) := by decide +kernel
theorem dX6_offer_22 : decode cX6_offer 22 = .ok (.iload_n 2, 1) := by decide +kernel
theorem dX6_offer_23 : decode cX6_offer 23 = .ok (.iaload, 1) := by decide +kernel
theorem dX6_offer_24 : decode cX6_offer 24 = .ok (.iadd, 1) := by decide +kernel
theorem dX6_offer_25 : decode cX6_offer 25 = .ok (.aload_n 0, 1) := by decide +kernel
theorem dX6_offer_26 : decode cX6_offer 26 = .ok (.getfield 30, 3) := by decide +kernel
theorem dX6_offer_29 : decode cX6_offer 29 = .ok (.iload_n 2, 1) := by decide +kernel
theorem dX6_offer_30 : decode cX6_offer 30 = .ok (.iaload, 1) := by decide +kernel
theorem dX6_offer_31 : decode cX6_offer 31 = .ok (.ifCond .le 10, 3) := by decide +kernel
theorem dX6_offer_41 : decode cX6_offer 41 = .ok (.iconst 0, 1) := by decide +kernel
theorem dX6_offer_42 : decode cX6_offer 42 = .ok (.iadd, 1) := by decide +kernel
theorem dX6_offer_43 : decode cX6_offer 43 = .ok (.istore 5, 2) := by decide +kernel
theorem dX6_offer_45 : decode cX6_offer 45 = .ok (.iconst 1, 1) := by decide +kernel
theorem dX6_offer_46 : decode cX6_offer 46 = .ok (.aload_n 0, 1) := by decide +kernel
theorem dX6_offer_47 : decode cX6_offer 47 = .ok (.getfield 30, 3) := by decide +kernel
theorem dX6_offer_50 : decode cX6_offer 50 = .ok (.iload_n 2, 1) := by decide +kernel
theorem dX6_offer_51 : decode cX6_offer 51 = .ok (.iaload, 1) := by decide +kernel
theorem dX6_offer_52 : decode cX6_offer 52 = .ok (.iadd, 1) := by decide +kernel
theorem dX6_offer_53 : decode cX6_offer 53 = .ok (.istore 6, 2) := by decide +kernel
theorem dX6_offer_55 : decode cX6_offer 55 = .ok (.aload_n 0, 1) := by decide +kernel
theorem dX6_offer_56 : decode cX6_offer 56 = .ok (.getfield 26, 3) := by decide +kernel
theorem dX6_offer_59 : decode cX6_offer 59 = .ok (.iload_n 1, 1) := by decide +kernel
theorem dX6_offer_60 : decode cX6_offer 60 = .ok (.iaload, 1) := by decide +kernel
theorem dX6_offer_61 : decode cX6_offer 61 = .ok (.iconst (-1), 1) := by decide +kernel
theorem dX6_offer_62 : decode cX6_offer 62 = .ok (.if_icmp .eq 16, 3) := by decide +kernel
theorem dX6_offer_78 : decode cX6_offer 78 = .ok (.aload_n 0, 1) := by decide +kernel
theorem dX6_offer_79 : decode cX6_offer 79 = .ok (.getfield 26, 3) := by decide +kernel
theorem dX6_offer_82 : decode cX6_offer 82 = .ok (.iload_n 1, 1) := by decide +kernel
theorem dX6_offer_83 : decode cX6_offer 83 = .ok (.iload 5, 2) := by decide +kernel
theorem dX6_offer_85 : decode cX6_offer 85 = .ok (.iastore, 1) := by decide +kernel
theorem dX6_offer_86 : decode cX6_offer 86 = .ok (.aload_n 0, 1) := by decide +kernel
theorem dX6_offer_87 : decode cX6_offer 87 = .ok (.getfield 30, 3) := by decide +kernel
theorem dX6_offer_90 : decode cX6_offer 90 = .ok (.iload_n 1, 1) := by decide +kernel
theorem dX6_offer_91 : decode cX6_offer 91 = .ok (.iload 6, 2) := by decide +kernel
theorem dX6_offer_93 : decode cX6_offer 93 = .ok (.iastore, 1) := by decide +kernel
theorem dX6_offer_94 : decode cX6_offer 94 = .ok (.aload_n 0, 1) := by decide +kernel
theorem dX6_offer_95 : decode cX6_offer 95 = .ok (.getfield 33, 3) := by decide +kernel
theorem dX6_offer_98 : decode cX6_offer 98 = .ok (.iload_n 1, 1) := by decide +kernel
theorem dX6_offer_99 : decode cX6_offer 99 = .ok (.iload_n 2, 1) := by decide +kernel
theorem dX6_offer_100 : decode cX6_offer 100 = .ok (.iastore, 1) := by decide +kernel
theorem dX6_offer_101 : decode cX6_offer 101 = .ok (.aload_n 0, 1) := by decide +kernel
theorem dX6_offer_102 : decode cX6_offer 102 = .ok (.getfield 36, 3) := by decide +kernel
theorem dX6_offer_105 : decode cX6_offer 105 = .ok (.iload_n 1, 1) := by decide +kernel
theorem dX6_offer_106 : decode cX6_offer 106 = .ok (.iload_n 3, 1) := by decide +kernel
theorem dX6_offer_107 : decode cX6_offer 107 = .ok (.iastore, 1) := by decide +kernel
theorem dX6_offer_108 : decode cX6_offer 108 = .ok (.return_, 1) := by decide +kernel
theorem dX6_offer_65 : decode cX6_offer 65 = .ok (.aload_n 0, 1) := by decide +kernel
theorem dX6_offer_66 : decode cX6_offer 66 = .ok (.iload_n 1, 1) := by decide +kernel
theorem dX6_offer_67 : decode cX6_offer 67 = .ok (.iload 5, 2) := by decide +kernel
theorem dX6_offer_69 : decode cX6_offer 69 = .ok (.iload 6, 2) := by decide +kernel
theorem dX6_offer_71 : decode cX6_offer 71 = .ok (.iload_n 2, 1) := by decide +kernel
set_option maxRecDepth 20000 in
theorem ggX6_offer_X6_isBetter : GoodIn wsX6_offer wsX6_isBetter := goodIn_r _ [10, 1, 2, 4, 11, 12, 13, 14, 15, 16, 17, 18, 19, 20, 21, 22] rfl (by decide +kernel)
set_option maxRecDepth 20000 in
theorem gX6_offer_X6_isBetter : GoodIn wsX6_offer (wsV RX6 128 RX6 yX6_isBetter wsX6_isBetter) := goodIn_app (goodIn_r _ [6, 7, 8, 9] rfl (by decide +kernel)) ggX6_offer_X6_isBetter
theorem dX6_offer_72 : decode cX6_offer 72 = .ok (.invokevirtual 128, 3) := by decide +kernel
theorem dX6_offer_75 : decode cX6_offer 75 = .ok (.ifCond .eq 33, 3) := by decide +kernel
theorem dX6_offer_34 : decode cX6_offer 34 = .ok (.aload_n 0, 1) := by decide +kernel
theorem dX6_offer_35 : decode cX6_offer 35 = .ok (.getfield 60, 3) := by decide +kernel
theorem dX6_offer_38 : decode cX6_offer 38 = .ok (.goto 4, 3) := by decide +kernel
