theorem dX2_known_0 : decode cX2_known 0 = .ok (.iload_n 0, 1) := by decide +kernel
theorem dX2_known_1 : decode cX2_known 1 = .ok (.ifCond .lt 12, 3) := by decide +kernel
theorem dX2_known_13 : decode cX2_known 13 = .ok (.iconst 0, 1) := by decide +kernel
theorem dX2_known_14 : decode cX2_known 14 = .ok (.ireturn, 1) := by decide +kernel
theorem dX2_known_4 : decode cX2_known 4 = .ok (.iload_n 0, 1) := by decide +kernel
theorem dX2_known_5 : decode cX2_known 5 = .ok (.iconst 5, 1) := by decide +kernel
theorem dX2_known_6 : decode cX2_known 6 = .ok (.if_icmp .gt 7, 3) := by decide +kernel
theorem dX2_known_9 : decode cX2_known 9 = .ok (.iconst 1, 1) := by decide +kernel
theorem dX2_known_10 : decode cX2_known 10 = .ok (.goto 4, 3) := by decide +kernel
theorem dX11_isLetter_0 : decode cX11_isLetter 0 = .ok (.iload_n 0, 1) := by decide +kernel
theorem dX11_isLetter_1 : decode cX11_isLetter 1 = .ok (.ifCond .lt 28, 3) := by decide +kernel
theorem dX11_isLetter_29 : decode cX11_isLetter 29 = .ok (.iconst 0, 1) := by decide +kernel
theorem dX11_isLetter_30 : decode cX11_isLetter 30 = .ok (.ireturn, 1) := by decide +kernel
theorem dX11_isLetter_4 : decode cX11_isLetter 4 = .ok (.iload_n 0, 1) := by decide +kernel
theorem dX11_isLetter_5 : decode cX11_isLetter 5 = .ok (.ldc_w 262, 3) := by decide +kernel
theorem dX11_isLetter_8 : decode cX11_isLetter 8 = .ok (.if_icmp .gt 21, 3) := by decide +kernel
theorem dX11_isLetter_11 : decode cX11_isLetter 11 = .ok (.iload_n 0, 1) := by decide +kernel
theorem dX11_isLetter_12 : decode cX11_isLetter 12 = .ok (.ldc_w 263, 3) := by decide +kernel
theorem dX11_isLetter_15 : decode cX11_isLetter 15 = .ok (.if_icmp .lt 10, 3) := by decide +kernel
theorem dX11_isLetter_25 : decode cX11_isLetter 25 = .ok (.iconst 1, 1) := by decide +kernel
theorem dX11_isLetter_26 : decode cX11_isLetter 26 = .ok (.goto 4, 3) := by decide +kernel
theorem dX11_isLetter_18 : decode cX11_isLetter 18 = .ok (.iload_n 0, 1) := by decide +kernel
theorem dX11_isLetter_19 : decode cX11_isLetter 19 = .ok (.ldc_w 264, 3) := by decide +kernel
theorem dX11_isLetter_22 : decode cX11_isLetter 22 = .ok (.if_icmp .le 7, 3) := by decide +kernel
theorem dX0_length_0 : decode cX0_length 0 = .ok (.aload_n 0, 1) := by decide +kernel
theorem dX0_length_1 : decode cX0_length 1 = .ok (.getfield 22, 3) := by decide +kernel
theorem dX0_length_4 : decode cX0_length 4 = .ok (.ireturn, 1) := by decide +kernel
theorem dX3_length_0 : decode cX3_length 0 = .ok (.aload_n 0, 1) := by decide +kernel
theorem dX3_length_1 : decode cX3_length 1 = .ok (.getfield 24, 3) := by decide +kernel
theorem dX3_length_4 : decode cX3_length 4 = .ok (.ireturn, 1) := by decide +kernel
theorem dX4_length_0 : decode cX4_length 0 = .ok (.aload_n 0, 1) := by decide +kernel
theorem dX4_length_1 : decode cX4_length 1 = .ok (.getfield 22, 3) := by decide +kernel
theorem dX4_length_4 : decode cX4_length 4 = .ok (.ireturn, 1) := by decide +kernel
theorem dX4_empty_0 : decode cX4_empty 0 = .ok (.aload_n 0, 1) := by decide +kernel
theorem dX4_empty_1 : decode cX4_empty 1 = .ok (.iconst 0, 1) := by decide +kernel
theorem dX4_empty_2 : decode cX4_empty 2 = .ok (.putfield 22, 3) := by decide +kernel
theorem dX4_empty_5 : decode cX4_empty 5 = .ok (.return_, 1) := by decide +kernel
theorem dX4_tell_0 : decode cX4_tell 0 = .ok (.iconst 0, 1) := by decide +kernel
theorem dX4_tell_1 : decode cX4_tell 1 = .ok (.istore_n 3, 1) := by decide +kernel
theorem dX4_tell_2 : decode cX4_tell 2 = .ok (.iload_n 3, 1) := by decide +kernel
theorem dX4_tell_3 : decode cX4_tell 3 = .ok (.aload_n 0, 1) := by decide +kernel
theorem dX4_tell_4 : decode cX4_tell 4 = .ok (.getfield 22, 3) := by decide +kernel
theorem dX4_tell_7 : decode cX4_tell 7 = .ok (.if_icmp .ge 31, 3) := by decide +kernel
theorem dX4_tell_38 : decode cX4_tell 38 = .ok (.aload_n 0, 1) := by decide +kernel
theorem dX4_tell_39 : decode cX4_tell 39 = .ok (.getfield 22, 3) := by decide +kernel
theorem dX4_tell_42 : decode cX4_tell 42 = .ok (.bipush 6, 2) := by decide +kernel
theorem dX4_tell_44 : decode cX4_tell 44 = .ok (.if_icmp .lt 5, 3) := by decide +kernel
theorem dX4_tell_49 : decode cX4_tell 49 = .ok (.aload_n 0, 1) := by decide +kernel
theorem dX4_tell_50 : decode cX4_tell 50 = .ok (.getfield 9, 3) := by decide +kernel
theorem dX4_tell_53 : decode cX4_tell 53 = .ok (.aload_n 0, 1) := by decide +kernel
theorem dX4_tell_54 : decode cX4_tell 54 = .ok (.getfield 22, 3) := by decide +kernel
theorem dX4_tell_57 : decode cX4_tell 57 = .ok (.iload_n 1, 1) := by decide +kernel
theorem dX4_tell_58 : decode cX4_tell 58 = .ok (.iastore, 1) := by decide +kernel
theorem dX4_tell_59 : decode cX4_tell 59 = .ok (.aload_n 0, 1) := by decide +kernel
theorem dX4_tell_60 : decode cX4_tell 60 = .ok (.getfield 15, 3) := by decide +kernel
theorem dX4_tell_63 : decode cX4_tell 63 = .ok (.aload_n 0, 1) := by decide +kernel
theorem dX4_tell_64 : decode cX4_tell 64 = .ok (.getfield 22, 3) := by decide +kernel
theorem dX4_tell_67 : decode cX4_tell 67 = .ok (.iload_n 2, 1) := by decide +kernel
theorem dX4_tell_68 : decode cX4_tell 68 = .ok (.iastore, 1) := by decide +kernel
theorem dX4_tell_69 : decode cX4_tell 69 = .ok (.aload_n 0, 1) := by decide +kernel
theorem dX4_tell_70 : decode cX4_tell 70 = .ok (.dup, 1) := by decide +kernel
theorem dX4_tell_71 : decode cX4_tell 71 = .ok (.getfield 22, 3) := by decide +kernel
theorem dX4_tell_74 : decode cX4_tell 74 = .ok (.iconst 1, 1) := by decide +kernel
theorem dX4_tell_75 : decode cX4_tell 75 = .ok (.iadd, 1) := by decide +kernel
theorem dX4_tell_76 : decode cX4_tell 76 = .ok (.putfield 22, 3) := by decide +kernel
theorem dX4_tell_79 : decode cX4_tell 79 = .ok (.iconst 1, 1) := by decide +kernel
theorem dX4_tell_80 : decode cX4_tell 80 = .ok (.ireturn, 1) := by decide +kernel
theorem dX1_forgetFreshness_0 : decode cX1_forgetFreshness 0 = .ok (.aload_n 0, 1) := by decide +kernel
theorem dX1_forgetFreshness_1 : decode cX1_forgetFreshness 1 = .ok (.iconst 0, 1) := by decide +kernel
theorem dX1_forgetFreshness_2 : decode cX1_forgetFreshness 2 = .ok (.putfield 72, 3) := by decide +kernel
theorem dX1_forgetFreshness_5 : decode cX1_forgetFreshness 5 = .ok (.return_, 1) := by decide +kernel
theorem dX1_isFresh_0 : decode cX1_isFresh 0 = .ok (.aload_n 0, 1) := by decide +kernel
theorem dX1_isFresh_1 : decode cX1_isFresh 1 = .ok (.getfield 72, 3) := by decide +kernel
theorem dX1_isFresh_4 : decode cX1_isFresh 4 = .ok (.ifCond .eq 19, 3) := by decide +kernel
theorem dX1_isFresh_23 : decode cX1_isFresh 23 = .ok (.iconst 0, 1) := by decide +kernel
theorem dX1_isFresh_24 : decode cX1_isFresh 24 = .ok (.ireturn, 1) := by decide +kernel
theorem dX1_told_0 : decode cX1_told 0 = .ok (.iload_n 1, 1) := by decide +kernel
theorem dX1_told_1 : decode cX1_told 1 = .ok (.ifCond .lt 11, 3) := by decide +kernel
theorem dX1_told_12 : decode cX1_told 12 = .ok (.iconst (-1), 1) := by decide +kernel
theorem dX1_told_13 : decode cX1_told 13 = .ok (.ireturn, 1) := by decide +kernel
theorem dX1_told_4 : decode cX1_told 4 = .ok (.iload_n 1, 1) := by decide +kernel
theorem dX1_told_5 : decode cX1_told 5 = .ok (.aload_n 0, 1) := by decide +kernel
theorem dX1_told_6 : decode cX1_told 6 = .ok (.getfield 65, 3) := by decide +kernel
theorem dX1_told_9 : decode cX1_told 9 = .ok (.if_icmp .lt 5, 3) := by decide +kernel
theorem dX9_told_0 : decode cX9_told 0 = .ok (.iload_n 1, 1) := by decide +kernel
theorem dX9_told_1 : decode cX9_told 1 = .ok (.ifCond .lt 11, 3) := by decide +kernel
theorem dX9_told_12 : decode cX9_told 12 = .ok (.iconst (-1), 1) := by decide +kernel
theorem dX9_told_13 : decode cX9_told 13 = .ok (.ireturn, 1) := by decide +kernel
theorem dX9_told_4 : decode cX9_told 4 = .ok (.iload_n 1, 1) := by decide +kernel
theorem dX9_told_5 : decode cX9_told 5 = .ok (.aload_n 0, 1) := by decide +kernel
theorem dX9_told_6 : decode cX9_told 6 = .ok (.getfield 59, 3) := by decide +kernel
theorem dX9_told_9 : decode cX9_told 9 = .ok (.if_icmp .lt 5, 3) := by decide +kernel
theorem dX0_remember_0 : decode cX0_remember 0 = .ok (.aload_n 1, 1) := by decide +kernel
set_option maxRecDepth 20000 in
theorem ggX0_remember_X5_length : GoodIn wsX0_remember wsX5_length := goodIn_r _ [13, 14, 24, 25] rfl (by decide +kernel)
set_option maxRecDepth 20000 in
theorem gX0_remember_X5_length : GoodIn wsX0_remember (wsV RX0 25 RX5 yX5_length wsX5_length) := goodIn_app (goodIn_r _ [9, 10, 11, 12] rfl (by decide +kernel)) ggX0_remember_X5_length
theorem dX0_remember_1 : decode cX0_remember 1 = .ok (.invokevirtual 25, 3) := by decide +kernel
theorem dX0_remember_4 : decode cX0_remember 4 = .ok (.sipush 300, 3) := by decide +kernel
theorem dX0_remember_7 : decode cX0_remember 7 = .ok (.invokestatic 30, 3) := by decide +kernel
theorem dX0_remember_10 : decode cX0_remember 10 = .ok (.istore_n 2, 1) := by decide +kernel
theorem dX0_remember_11 : decode cX0_remember 11 = .ok (.iconst 0, 1) := by decide +kernel
theorem dX0_remember_12 : decode cX0_remember 12 = .ok (.istore_n 3, 1) := by decide +kernel
theorem dX0_remember_13 : decode cX0_remember 13 = .ok (.iload_n 3, 1) := by decide +kernel
theorem dX0_remember_14 : decode cX0_remember 14 = .ok (.iload_n 2, 1) := by decide +kernel
theorem dX0_remember_15 : decode cX0_remember 15 = .ok (.if_icmp .ge 29, 3) := by decide +kernel
theorem dX0_remember_44 : decode cX0_remember 44 = .ok (.aload_n 0, 1) := by decide +kernel
theorem dX0_remember_45 : decode cX0_remember 45 = .ok (.getfield 15, 3) := by decide +kernel
theorem dX0_remember_48 : decode cX0_remember 48 = .ok (.aload_n 0, 1) := by decide +kernel
theorem dX0_remember_49 : decode cX0_remember 49 = .ok (.getfield 18, 3) := by decide +kernel
theorem dX0_remember_52 : decode cX0_remember 52 = .ok (.iload_n 2, 1) := by decide +kernel
theorem dX0_remember_53 : decode cX0_remember 53 = .ok (.iastore, 1) := by decide +kernel
theorem dX0_remember_54 : decode cX0_remember 54 = .ok (.aload_n 0, 1) := by decide +kernel
theorem dX0_remember_55 : decode cX0_remember 55 = .ok (.aload_n 0, 1) := by decide +kernel
theorem dX0_remember_56 : decode cX0_remember 56 = .ok (.getfield 18, 3) := by decide +kernel
theorem dX0_remember_59 : decode cX0_remember 59 = .ok (.bipush 19, 2) := by decide +kernel
theorem dX0_remember_61 : decode cX0_remember 61 = .ok (.if_icmp .ne 7, 3) := by decide +kernel
theorem dX0_remember_68 : decode cX0_remember 68 = .ok (.aload_n 0, 1) := by decide +kernel
theorem dX0_remember_69 : decode cX0_remember 69 = .ok (.getfield 18, 3) := by decide +kernel
theorem dX0_remember_72 : decode cX0_remember 72 = .ok (.iconst 1, 1) := by decide +kernel
theorem dX0_remember_73 : decode cX0_remember 73 = .ok (.iadd, 1) := by decide +kernel
theorem dX0_remember_74 : decode cX0_remember 74 = .ok (.putfield 18, 3) := by decide +kernel
theorem dX0_remember_77 : decode cX0_remember 77 = .ok (.aload_n 0, 1) := by decide +kernel
theorem dX0_remember_78 : decode cX0_remember 78 = .ok (.aload_n 0, 1) := by decide +kernel
theorem dX0_remember_79 : decode cX0_remember 79 = .ok (.getfield 22, 3) := by decide +kernel
theorem dX0_remember_82 : decode cX0_remember 82 = .ok (.iconst 1, 1) := by decide +kernel
theorem dX0_remember_83 : decode cX0_remember 83 = .ok (.iadd, 1) := by decide +kernel
theorem dX0_remember_84 : decode cX0_remember 84 = .ok (.bipush 20, 2) := by decide +kernel
theorem dX0_remember_86 : decode cX0_remember 86 = .ok (.invokestatic 30, 3) := by decide +kernel
theorem dX0_remember_89 : decode cX0_remember 89 = .ok (.putfield 22, 3) := by decide +kernel
theorem dX0_remember_92 : decode cX0_remember 92 = .ok (.return_, 1) := by decide +kernel
theorem dX0_takeBack_0 : decode cX0_takeBack 0 = .ok (.aload_n 0, 1) := by decide +kernel
theorem dX0_takeBack_1 : decode cX0_takeBack 1 = .ok (.getfield 22, 3) := by decide +kernel
theorem dX0_takeBack_4 : decode cX0_takeBack 4 = .ok (.ifCond .ne 5, 3) := by decide +kernel
theorem dX0_takeBack_7 : decode cX0_takeBack 7 = .ok (.iconst 0, 1) := by decide +kernel
theorem dX0_takeBack_8 : decode cX0_takeBack 8 = .ok (.ireturn, 1) := by decide +kernel
theorem dX7_fault_0 : decode cX7_fault 0 = .ok (.aload_n 0, 1) := by decide +kernel
theorem dX7_fault_1 : decode cX7_fault 1 = .ok (.getfield 24, 3) := by decide +kernel
theorem dX7_fault_4 : decode cX7_fault 4 = .ok (.ireturn, 1) := by decide +kernel
theorem dX7_bytes_0 : decode cX7_bytes 0 = .ok (.aload_n 0, 1) := by decide +kernel
theorem dX7_bytes_1 : decode cX7_bytes 1 = .ok (.getfield 14, 3) := by decide +kernel
theorem dX7_bytes_4 : decode cX7_bytes 4 = .ok (.areturn, 1) := by decide +kernel
theorem dX7_write_0 : decode cX7_write 0 = .ok (.aload_n 0, 1) := by decide +kernel
theorem dX7_write_1 : decode cX7_write 1 = .ok (.iconst (-1), 1) := by decide +kernel
theorem dX7_write_2 : decode cX7_write 2 = .ok (.putfield 24, 3) := by decide +kernel
theorem dX7_write_5 : decode cX7_write 5 = .ok (.aload_n 0, 1) := by decide +kernel
theorem dX7_write_6 : decode cX7_write 6 = .ok (.getfield 14, 3) := by decide +kernel
theorem dX7_write_9 : decode cX7_write 9 = .ok (.iconst 0, 1) := by decide +kernel
set_option maxRecDepth 20000 in
theorem ggX7_write_X5_cut : GoodIn wsX7_write wsX5_cut := goodIn_r _ [8, 9, 58, 59] rfl (by decide +kernel)
set_option maxRecDepth 20000 in
theorem gX7_write_X5_cut : GoodIn wsX7_write (wsV RX7 28 RX5 yX5_cut wsX5_cut) := goodIn_app (goodIn_r _ [4, 5, 6, 7] rfl (by decide +kernel)) ggX7_write_X5_cut
theorem dX7_write_10 : decode cX7_write 10 = .ok (.invokevirtual 28, 3) := by decide +kernel
theorem dX7_write_13 : decode cX7_write 13 = .ok (.iconst 0, 1) := by decide +kernel
theorem dX7_write_14 : decode cX7_write 14 = .ok (.istore_n 3, 1) := by decide +kernel
theorem dX7_write_15 : decode cX7_write 15 = .ok (.iload_n 3, 1) := by decide +kernel
theorem dX7_write_16 : decode cX7_write 16 = .ok (.aload_n 2, 1) := by decide +kernel
set_option maxRecDepth 20000 in
theorem ggX7_write_X5_length : GoodIn wsX7_write wsX5_length := goodIn_r _ [13, 9, 58, 59] rfl (by decide +kernel)
set_option maxRecDepth 20000 in
theorem gX7_write_X5_length : GoodIn wsX7_write (wsV RX7 31 RX5 yX5_length wsX5_length) := goodIn_app (goodIn_r _ [10, 11, 12, 7] rfl (by decide +kernel)) ggX7_write_X5_length
theorem dX7_write_17 : decode cX7_write 17 = .ok (.invokevirtual 31, 3) := by decide +kernel
theorem dX7_write_20 : decode cX7_write 20 = .ok (.if_icmp .ge 36, 3) := by decide +kernel
theorem dX7_write_56 : decode cX7_write 56 = .ok (.iconst 1, 1) := by decide +kernel
theorem dX7_write_57 : decode cX7_write 57 = .ok (.ireturn, 1) := by decide +kernel
theorem dX7_readExactly_0 : decode cX7_readExactly 0 = .ok (.aload_n 0, 1) := by decide +kernel
theorem dX7_readExactly_1 : decode cX7_readExactly 1 = .ok (.iconst (-1), 1) := by decide +kernel
theorem dX7_readExactly_2 : decode cX7_readExactly 2 = .ok (.putfield 24, 3) := by decide +kernel
theorem dX7_readExactly_5 : decode cX7_readExactly 5 = .ok (.aload_n 3, 1) := by decide +kernel
theorem dX7_readExactly_6 : decode cX7_readExactly 6 = .ok (.iconst 0, 1) := by decide +kernel
set_option maxRecDepth 20000 in
theorem ggX7_readExactly_X5_cut : GoodIn wsX7_readExactly wsX5_cut := goodIn_r _ [11, 12, 74, 75] rfl (by decide +kernel)
set_option maxRecDepth 20000 in
theorem gX7_readExactly_X5_cut : GoodIn wsX7_readExactly (wsV RX7 28 RX5 yX5_cut wsX5_cut) := goodIn_app (goodIn_r _ [7, 8, 9, 10] rfl (by decide +kernel)) ggX7_readExactly_X5_cut
theorem dX7_readExactly_7 : decode cX7_readExactly 7 = .ok (.invokevirtual 28, 3) := by decide +kernel
theorem dX7_readExactly_10 : decode cX7_readExactly 10 = .ok (.iconst 1, 1) := by decide +kernel
theorem dX7_readExactly_11 : decode cX7_readExactly 11 = .ok (.istore 4, 2) := by decide +kernel
theorem dX7_readExactly_13 : decode cX7_readExactly 13 = .ok (.iconst 0, 1) := by decide +kernel
theorem dX7_readExactly_14 : decode cX7_readExactly 14 = .ok (.istore 5, 2) := by decide +kernel
theorem dX7_readExactly_16 : decode cX7_readExactly 16 = .ok (.iload 5, 2) := by decide +kernel
theorem dX7_readExactly_18 : decode cX7_readExactly 18 = .ok (.aload_n 2, 1) := by decide +kernel
set_option maxRecDepth 20000 in
theorem ggX7_readExactly_X5_length : GoodIn wsX7_readExactly wsX5_length := goodIn_r _ [16, 12, 74, 75] rfl (by decide +kernel)
set_option maxRecDepth 20000 in
theorem gX7_readExactly_X5_length : GoodIn wsX7_readExactly (wsV RX7 31 RX5 yX5_length wsX5_length) := goodIn_app (goodIn_r _ [13, 14, 15, 10] rfl (by decide +kernel)) ggX7_readExactly_X5_length
theorem dX7_readExactly_19 : decode cX7_readExactly 19 = .ok (.invokevirtual 31, 3) := by decide +kernel
theorem dX7_readExactly_22 : decode cX7_readExactly 22 = .ok (.if_icmp .ge 75, 3) := by decide +kernel
theorem dX7_readExactly_97 : decode cX7_readExactly 97 = .ok (.iload 4, 2) := by decide +kernel
theorem dX7_readExactly_99 : decode cX7_readExactly 99 = .ok (.ireturn, 1) := by decide +kernel
theorem dX7_pass_0 : decode cX7_pass 0 = .ok (.aload_n 0, 1) := by decide +kernel
theorem dX7_pass_1 : decode cX7_pass 1 = .ok (.iload_n 1, 1) := by decide +kernel
theorem dX7_pass_2 : decode cX7_pass 2 = .ok (.aload_n 3, 1) := by decide +kernel
set_option maxRecDepth 20000 in
theorem ggX7_pass_X7_write : GoodIn wsX7_pass wsX7_write := goodIn_r _ [6, 7, 1, 8, 9, 10, 11, 12, 13, 14, 15, 16, 17, 18, 19, 20, 21, 22, 23, 24, 25, 26, 27, 28, 29, 30, 31, 32, 33, 34, 35, 36, 37, 38, 39, 40, 41, 42, 43, 44, 45, 46, 47, 48, 49, 50, 51, 52, 53, 54, 55, 56, 57, 58, 59, 104, 105, 106, 107, 108, 109, 110, 111, 112, 113, 114] rfl (by decide +kernel)
set_option maxRecDepth 20000 in
theorem gX7_pass_X7_write : GoodIn wsX7_pass (wsV RX7 65 RX7 yX7_write wsX7_write) := goodIn_app (goodIn_r _ [2, 3, 4, 5] rfl (by decide +kernel)) ggX7_pass_X7_write
theorem dX7_pass_3 : decode cX7_pass 3 = .ok (.invokevirtual 65, 3) := by decide +kernel
theorem dX7_pass_6 : decode cX7_pass 6 = .ok (.ifCond .eq 34, 3) := by decide +kernel
theorem dX7_pass_9 : decode cX7_pass 9 = .ok (.aload_n 0, 1) := by decide +kernel
theorem dX7_pass_10 : decode cX7_pass 10 = .ok (.iload_n 2, 1) := by decide +kernel
theorem dX7_pass_11 : decode cX7_pass 11 = .ok (.aload_n 0, 1) := by decide +kernel
theorem dX7_pass_12 : decode cX7_pass 12 = .ok (.getfield 14, 3) := by decide +kernel
theorem dX7_pass_15 : decode cX7_pass 15 = .ok (.aload 4, 2) := by decide +kernel
set_option maxRecDepth 20000 in
theorem ggX7_pass_X7_readExactly : GoodIn wsX7_pass wsX7_readExactly := goodIn_r _ [63, 7, 8, 64, 65, 66, 67, 9, 10, 11, 12, 13, 14, 15, 16, 17, 18, 68, 69, 70, 27, 71, 72, 20, 21, 22, 23, 73, 74, 75, 76, 42, 43, 44, 45, 46, 47, 77, 78, 79, 51, 80, 81, 82, 83, 84, 85, 86, 87, 88, 89, 90, 91, 92, 93, 94, 95, 96, 36, 37, 38, 97, 98, 99, 100, 30, 31, 32, 101, 102, 103, 104, 105, 106, 107, 108, 109, 110, 111, 112, 113, 114] rfl (by decide +kernel)
set_option maxRecDepth 20000 in
theorem gX7_pass_X7_readExactly : GoodIn wsX7_pass (wsV RX7 69 RX7 yX7_readExactly wsX7_readExactly) := goodIn_app (goodIn_r _ [60, 61, 62, 5] rfl (by decide +kernel)) ggX7_pass_X7_readExactly
theorem dX7_pass_17 : decode cX7_pass 17 = .ok (.invokevirtual 69, 3) := by decide +kernel
theorem dX7_pass_20 : decode cX7_pass 20 = .ok (.ifCond .eq 20, 3) := by decide +kernel
theorem dX7_pass_23 : decode cX7_pass 23 = .ok (.aload_n 0, 1) := by decide +kernel
theorem dX7_pass_24 : decode cX7_pass 24 = .ok (.getfield 14, 3) := by decide +kernel
set_option maxRecDepth 20000 in
theorem ggX7_pass_X5_length : GoodIn wsX7_pass wsX5_length := goodIn_r _ [18, 14, 107, 108] rfl (by decide +kernel)
set_option maxRecDepth 20000 in
theorem gX7_pass_X5_length : GoodIn wsX7_pass (wsV RX7 31 RX5 yX5_length wsX5_length) := goodIn_app (goodIn_r _ [15, 16, 17, 12] rfl (by decide +kernel)) ggX7_pass_X5_length
theorem dX7_pass_27 : decode cX7_pass 27 = .ok (.invokevirtual 31, 3) := by decide +kernel
theorem dX7_pass_30 : decode cX7_pass 30 = .ok (.sipush 900, 3) := by decide +kernel
theorem dX7_pass_33 : decode cX7_pass 33 = .ok (.if_icmp .gt 7, 3) := by decide +kernel
theorem dX7_pass_36 : decode cX7_pass 36 = .ok (.iconst 1, 1) := by decide +kernel
theorem dX7_pass_37 : decode cX7_pass 37 = .ok (.goto 4, 3) := by decide +kernel
theorem dX7_pass_41 : decode cX7_pass 41 = .ok (.ireturn, 1) := by decide +kernel
theorem dX7_passRoughly_0 : decode cX7_passRoughly 0 = .ok (.aload_n 0, 1) := by decide +kernel
theorem dX7_passRoughly_1 : decode cX7_passRoughly 1 = .ok (.iload_n 1, 1) := by decide +kernel
theorem dX7_passRoughly_2 : decode cX7_passRoughly 2 = .ok (.aload_n 3, 1) := by decide +kernel
set_option maxRecDepth 20000 in
theorem ggX7_passRoughly_X7_write : GoodIn wsX7_passRoughly wsX7_write := goodIn_r _ [12, 13, 1, 2, 14, 15, 16, 17, 18, 19, 20, 21, 22, 23, 24, 25, 26, 27, 28, 29, 30, 31, 32, 33, 34, 35, 36, 37, 38, 39, 40, 41, 42, 43, 44, 45, 46, 47, 48, 49, 50, 51, 52, 53, 54, 55, 56, 57, 58, 59, 60, 61, 62, 63, 64, 101, 102, 103, 104, 105, 106, 107, 108, 109, 110, 111] rfl (by decide +kernel)
set_option maxRecDepth 20000 in
theorem gX7_passRoughly_X7_write : GoodIn wsX7_passRoughly (wsV RX7 65 RX7 yX7_write wsX7_write) := goodIn_app (goodIn_r _ [8, 9, 10, 11] rfl (by decide +kernel)) ggX7_passRoughly_X7_write
theorem dX7_passRoughly_3 : decode cX7_passRoughly 3 = .ok (.invokevirtual 65, 3) := by decide +kernel
theorem dX7_passRoughly_6 : decode cX7_passRoughly 6 = .ok (.ifCond .eq 16, 3) := by decide +kernel
theorem dX7_passRoughly_9 : decode cX7_passRoughly 9 = .ok (.aload_n 0, 1) := by decide +kernel
theorem dX7_passRoughly_10 : decode cX7_passRoughly 10 = .ok (.getfield 14, 3) := by decide +kernel
set_option maxRecDepth 20000 in
theorem ggX7_passRoughly_X5_length : GoodIn wsX7_passRoughly wsX5_length := goodIn_r _ [23, 19, 104, 105] rfl (by decide +kernel)
set_option maxRecDepth 20000 in
theorem gX7_passRoughly_X5_length : GoodIn wsX7_passRoughly (wsV RX7 31 RX5 yX5_length wsX5_length) := goodIn_app (goodIn_r _ [20, 21, 22, 17] rfl (by decide +kernel)) ggX7_passRoughly_X5_length
theorem dX7_passRoughly_13 : decode cX7_passRoughly 13 = .ok (.invokevirtual 31, 3) := by decide +kernel
theorem dX7_passRoughly_16 : decode cX7_passRoughly 16 = .ok (.sipush 900, 3) := by decide +kernel
theorem dX7_passRoughly_19 : decode cX7_passRoughly 19 = .ok (.if_icmp .le 5, 3) := by decide +kernel
theorem dX7_passRoughly_24 : decode cX7_passRoughly 24 = .ok (.aload 4, 2) := by decide +kernel
theorem dX7_passRoughly_26 : decode cX7_passRoughly 26 = .ok (.iconst 0, 1) := by decide +kernel
set_option maxRecDepth 20000 in
theorem ggX7_passRoughly_X5_cut : GoodIn wsX7_passRoughly wsX5_cut := goodIn_r _ [18, 19, 104, 105] rfl (by decide +kernel)
set_option maxRecDepth 20000 in
theorem gX7_passRoughly_X5_cut : GoodIn wsX7_passRoughly (wsV RX7 28 RX5 yX5_cut wsX5_cut) := goodIn_app (goodIn_r _ [14, 15, 16, 17] rfl (by decide +kernel)) ggX7_passRoughly_X5_cut
theorem dX7_passRoughly_27 : decode cX7_passRoughly 27 = .ok (.invokevirtual 28, 3) := by decide +kernel
theorem dX7_passRoughly_30 : decode cX7_passRoughly 30 = .ok (.iconst 0, 1) := by decide +kernel
theorem dX7_passRoughly_31 : decode cX7_passRoughly 31 = .ok (.istore 5, 2) := by decide +kernel
theorem dX7_passRoughly_33 : decode cX7_passRoughly 33 = .ok (.iconst 0, 1) := by decide +kernel
theorem dX7_passRoughly_34 : decode cX7_passRoughly 34 = .ok (.istore 6, 2) := by decide +kernel
theorem dX7_passRoughly_36 : decode cX7_passRoughly 36 = .ok (.iload 6, 2) := by decide +kernel
theorem dX7_passRoughly_38 : decode cX7_passRoughly 38 = .ok (.aload_n 0, 1) := by decide +kernel
theorem dX7_passRoughly_39 : decode cX7_passRoughly 39 = .ok (.getfield 14, 3) := by decide +kernel
theorem dX7_passRoughly_42 : decode cX7_passRoughly 42 = .ok (.invokevirtual 31, 3) := by decide +kernel
theorem dX7_passRoughly_45 : decode cX7_passRoughly 45 = .ok (.if_icmp .ge 95, 3) := by decide +kernel
theorem dX7_passRoughly_140 : decode cX7_passRoughly 140 = .ok (.iload 5, 2) := by decide +kernel
theorem dX7_passRoughly_142 : decode cX7_passRoughly 142 = .ok (.ireturn, 1) := by decide +kernel
theorem dX3_sortOutside_0 : decode cX3_sortOutside 0 = .ok (.iload_n 0, 1) := by decide +kernel
theorem dX3_sortOutside_1 : decode cX3_sortOutside 1 = .ok (.bipush 32, 2) := by decide +kernel
theorem dX3_sortOutside_3 : decode cX3_sortOutside 3 = .ok (.if_icmp .ne 5, 3) := by decide +kernel
theorem dX3_sortOutside_6 : decode cX3_sortOutside 6 = .ok (.iconst 4, 1) := by decide +kernel
theorem dX3_sortOutside_7 : decode cX3_sortOutside 7 = .ok (.ireturn, 1) := by decide +kernel
theorem dX3_sortOf_0 : decode cX3_sortOf 0 = .ok (.iload_n 0, 1) := by decide +kernel
theorem dX3_sortOf_1 : decode cX3_sortOf 1 = .ok (.bipush 33, 2) := by decide +kernel
theorem dX3_sortOf_3 : decode cX3_sortOf 3 = .ok (.if_icmp .lt 9, 3) := by decide +kernel
theorem dX3_sortOf_12 : decode cX3_sortOf 12 = .ok (.iload_n 0, 1) := by decide +kernel
set_option maxRecDepth 20000 in
theorem ggX3_sortOf_X3_sortOutside : GoodIn wsX3_sortOf wsX3_sortOutside := goodIn_r _ [4] rfl (by decide +kernel)
set_option maxRecDepth 20000 in
theorem gX3_sortOf_X3_sortOutside : GoodIn wsX3_sortOf (va_wsS RX3 50 yX3_sortOutside wsX3_sortOutside) := goodIn_app (goodIn_r _ [1, 2, 3] rfl (by decide +kernel)) ggX3_sortOf_X3_sortOutside
theorem dX3_sortOf_13 : decode cX3_sortOf 13 = .ok (.invokestatic 50, 3) := by decide +kernel
theorem dX3_sortOf_16 : decode cX3_sortOf 16 = .ok (.ireturn, 1) := by decide +kernel
theorem dX3_of_0 : decode cX3_of 0 = .ok (.aload_n 0, 1) := by decide +kernel
theorem dX3_of_1 : decode cX3_of 1 = .ok (.getfield 24, 3) := by decide +kernel
theorem dX3_of_4 : decode cX3_of 4 = .ok (.ifCond .ne 7, 3) := by decide +kernel
theorem dX3_of_7 : decode cX3_of 7 = .ok (.iconst (-1), 1) := by decide +kernel
theorem dX3_of_8 : decode cX3_of 8 = .ok (.goto 9, 3) := by decide +kernel
theorem dX3_of_17 : decode cX3_of 17 = .ok (.istore_n 3, 1) := by decide +kernel
theorem dX3_of_18 : decode cX3_of 18 = .ok (.iload_n 3, 1) := by decide +kernel
theorem dX3_of_19 : decode cX3_of 19 = .ok (.iconst (-1), 1) := by decide +kernel
theorem dX3_of_20 : decode cX3_of 20 = .ok (.if_icmp .eq 20, 3) := by decide +kernel
theorem dX3_of_40 : decode cX3_of 40 = .ok (.iload_n 1, 1) := by decide +kernel
set_option maxRecDepth 20000 in
theorem ggX3_of_X3_sortOf : GoodIn wsX3_of wsX3_sortOf := goodIn_r _ [15, 16, 17, 6, 18] rfl (by decide +kernel)
set_option maxRecDepth 20000 in
theorem gX3_of_X3_sortOf : GoodIn wsX3_of (va_wsS RX3 35 yX3_sortOf wsX3_sortOf) := goodIn_app (goodIn_r _ [13, 14, 6] rfl (by decide +kernel)) ggX3_of_X3_sortOf
theorem dX3_of_41 : decode cX3_of 41 = .ok (.invokestatic 35, 3) := by decide +kernel
theorem dX3_of_44 : decode cX3_of 44 = .ok (.istore 4, 2) := by decide +kernel
theorem dX3_of_46 : decode cX3_of 46 = .ok (.iload_n 2, 1) := by decide +kernel
theorem dX3_of_47 : decode cX3_of 47 = .ok (.invokestatic 35, 3) := by decide +kernel
theorem dX3_of_50 : decode cX3_of 50 = .ok (.istore 5, 2) := by decide +kernel
theorem dX3_of_52 : decode cX3_of 52 = .ok (.iload 4, 2) := by decide +kernel
theorem dX3_of_54 : decode cX3_of 54 = .ok (.iload 5, 2) := by decide +kernel
theorem dX3_of_56 : decode cX3_of 56 = .ok (.if_icmp .ne 7, 3) := by decide +kernel
theorem dX3_of_59 : decode cX3_of 59 = .ok (.iconst 4, 1) := by decide +kernel
theorem dX3_of_60 : decode cX3_of 60 = .ok (.goto 5, 3) := by decide +kernel
theorem dX3_of_65 : decode cX3_of 65 = .ok (.istore 6, 2) := by decide +kernel
theorem dX3_of_67 : decode cX3_of 67 = .ok (.iload 6, 2) := by decide +kernel
theorem dX3_of_69 : decode cX3_of 69 = .ok (.iload 4, 2) := by decide +kernel
theorem dX3_of_71 : decode cX3_of 71 = .ok (.ifCond .ne 8, 3) := by decide +kernel
theorem dX3_of_79 : decode cX3_of 79 = .ok (.iconst 0, 1) := by decide +kernel
theorem dX3_of_80 : decode cX3_of 80 = .ok (.iadd, 1) := by decide +kernel
theorem dX3_of_81 : decode cX3_of 81 = .ok (.istore 6, 2) := by decide +kernel
theorem dX3_of_83 : decode cX3_of 83 = .ok (.iload 6, 2) := by decide +kernel
theorem dX3_of_85 : decode cX3_of 85 = .ok (.iload 5, 2) := by decide +kernel
theorem dX3_of_87 : decode cX3_of 87 = .ok (.ifCond .ne 8, 3) := by decide +kernel
theorem dX3_of_95 : decode cX3_of 95 = .ok (.iconst 0, 1) := by decide +kernel
theorem dX3_of_96 : decode cX3_of 96 = .ok (.iadd, 1) := by decide +kernel
theorem dX3_of_97 : decode cX3_of 97 = .ok (.ireturn, 1) := by decide +kernel
theorem dX3_ofText_0 : decode cX3_ofText 0 = .ok (.iconst 0, 1) := by decide +kernel
theorem dX3_ofText_1 : decode cX3_ofText 1 = .ok (.istore_n 2, 1) := by decide +kernel
theorem dX3_ofText_2 : decode cX3_ofText 2 = .ok (.bipush 32, 2) := by decide +kernel
theorem dX3_ofText_4 : decode cX3_ofText 4 = .ok (.istore_n 3, 1) := by decide +kernel
theorem dX3_ofText_5 : decode cX3_ofText 5 = .ok (.iconst 0, 1) := by decide +kernel
theorem dX3_ofText_6 : decode cX3_ofText 6 = .ok (.istore 4, 2) := by decide +kernel
theorem dX3_ofText_8 : decode cX3_ofText 8 = .ok (.iload 4, 2) := by decide +kernel
theorem dX3_ofText_10 : decode cX3_ofText 10 = .ok (.aload_n 1, 1) := by decide +kernel
set_option maxRecDepth 20000 in
theorem ggX3_ofText_X5_length : GoodIn wsX3_ofText wsX5_length := goodIn_r _ [5, 6, 34, 35] rfl (by decide +kernel)
set_option maxRecDepth 20000 in
theorem gX3_ofText_X5_length : GoodIn wsX3_ofText (wsV RX3 39 RX5 yX5_length wsX5_length) := goodIn_app (goodIn_r _ [1, 2, 3, 4] rfl (by decide +kernel)) ggX3_ofText_X5_length
theorem dX3_ofText_11 : decode cX3_ofText 11 = .ok (.invokevirtual 39, 3) := by decide +kernel
theorem dX3_ofText_14 : decode cX3_ofText 14 = .ok (.if_icmp .ge 30, 3) := by decide +kernel
theorem dX3_ofText_44 : decode cX3_ofText 44 = .ok (.iload_n 2, 1) := by decide +kernel
theorem dX3_ofText_45 : decode cX3_ofText 45 = .ok (.aload_n 0, 1) := by decide +kernel
theorem dX3_ofText_46 : decode cX3_ofText 46 = .ok (.iload_n 3, 1) := by decide +kernel
theorem dX3_ofText_47 : decode cX3_ofText 47 = .ok (.bipush 32, 2) := by decide +kernel
set_option maxRecDepth 20000 in
theorem ggX3_ofText_X3_of : GoodIn wsX3_ofText wsX3_of := goodIn_r _ [16, 17, 18, 19, 20, 21, 15, 22, 23, 24, 25, 26, 27, 28, 29, 30, 31, 32, 33, 36, 37, 38] rfl (by decide +kernel)
set_option maxRecDepth 20000 in
theorem gX3_ofText_X3_of : GoodIn wsX3_ofText (wsV RX3 47 RX3 yX3_of wsX3_of) := goodIn_app (goodIn_r _ [12, 13, 14, 15] rfl (by decide +kernel)) ggX3_ofText_X3_of
theorem dX3_ofText_49 : decode cX3_ofText 49 = .ok (.invokevirtual 47, 3) := by decide +kernel
theorem dX3_ofText_52 : decode cX3_ofText 52 = .ok (.iadd, 1) := by decide +kernel
theorem dX3_ofText_53 : decode cX3_ofText 53 = .ok (.ireturn, 1) := by decide +kernel
theorem dX3_pairOf_0 : decode cX3_pairOf 0 = .ok (.iload_n 0, 1) := by decide +kernel
theorem dX3_pairOf_1 : decode cX3_pairOf 1 = .ok (.bipush 16, 2) := by decide +kernel
theorem dX3_pairOf_3 : decode cX3_pairOf 3 = .ok (.ishl, 1) := by decide +kernel
theorem dX3_pairOf_4 : decode cX3_pairOf 4 = .ok (.iload_n 1, 1) := by decide +kernel
theorem dX3_pairOf_5 : decode cX3_pairOf 5 = .ok (.ior, 1) := by decide +kernel
theorem dX3_pairOf_6 : decode cX3_pairOf 6 = .ok (.ireturn, 1) := by decide +kernel
