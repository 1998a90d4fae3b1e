theorem dX7_fault_0 : decode cX7_fault 0 = .ok (.aload_n 0, 1) := by decide +kernel
theorem dX7_fault_1 : decode cX7_fault 1 = .ok (.getfield 24, 3) := by decide +kernel
theorem dX7_fault_4 : decode cX7_fault 4 = .ok (.ireturn, 1) := by decide +kernel
theorem dX7_bytes_0 : decode cX7_bytes 0 = .ok (.aload_n 0, 1) := by decide +kernel
theorem dX7_bytes_1 : decode cX7_bytes 1 = .ok (.getfield 14, 3) := by decide +kernel
theorem dX7_bytes_4 : decode cX7_bytes 4 = .ok (.areturn, 1) := by decide +kernel
theorem dX7_write_0 : decode cX7_write 0 = .ok (.aload_n 0, 1) := by decide +kernel
theorem dX7_write_1 : decode cX7_write 1 = .ok (.iconst (-1), 1) := by decide +kernel
theorem dX7_write_2 : decode cX7_write 2 = .ok (.putfield 24, 3) := by decide +kernel
theorem dX7_write_5 : decode cX7_write 5 = .ok (.aload_n 0, 1) := by decide +kernel
theorem dX7_write_6 : decode cX7_write 6 = .ok (.getfield 14, 3) := by decide +kernel
theorem dX7_write_9 : decode cX7_write 9 = .ok (.iconst 0, 1) := by decide +kernel
set_option maxRecDepth 20000 in
theorem ggX7_write_X5_cut : GoodIn wsX7_write wsX5_cut := goodIn_r _ [8, 9, 58, 59] rfl (by decide +kernel)
set_option maxRecDepth 20000 in
theorem gX7_write_X5_cut : GoodIn wsX7_write (wsV RX7 28 RX5 yX5_cut wsX5_cut) := goodIn_app (goodIn_r _ [4, 5, 6, 7] rfl (by decide +kernel)) ggX7_write_X5_cut
theorem dX7_write_10 : decode cX7_write 10 = .ok (.invokevirtual 28, 3) := by decide +kernel
theorem dX7_write_13 : decode cX7_write 13 = .ok (.iconst 0, 1) := by decide +kernel
theorem dX7_write_14 : decode cX7_write 14 = .ok (.istore_n 3, 1) := by decide +kernel
theorem dX7_write_15 : decode cX7_write 15 = .ok (.iload_n 3, 1) := by decide +kernel
theorem dX7_write_16 : decode cX7_write 16 = .ok (.aload_n 2, 1) := by decide +kernel
set_option maxRecDepth 20000 in
theorem ggX7_write_X5_length : GoodIn wsX7_write wsX5_length := goodIn_r _ [13, 9, 58, 59] rfl (by decide +kernel)
set_option maxRecDepth 20000 in
theorem gX7_write_X5_length : GoodIn wsX7_write (wsV RX7 31 RX5 yX5_length wsX5_length) := goodIn_app (goodIn_r _ [10, 11, 12, 7] rfl (by decide +kernel)) ggX7_write_X5_length
theorem dX7_write_17 : decode cX7_write 17 = .ok (.invokevirtual 31, 3) := by decide +kernel
theorem dX7_write_20 : decode cX7_write 20 = .ok (.if_icmp .ge 36, 3) := by decide +kernel
theorem dX7_write_56 : decode cX7_write 56 = .ok (.iconst 1, 1) := by decide +kernel
theorem dX7_write_57 : decode cX7_write 57 = .ok (.ireturn, 1) := by decide +kernel
theorem dX7_write_23 : decode cX7_write 23 = .ok (.aload_n 0, 1) := by decide +kernel
theorem dX7_write_24 : decode cX7_write 24 = .ok (.getfield 20, 3) := by decide +kernel
theorem dX7_write_27 : decode cX7_write 27 = .ok (.iload_n 1, 1) := by decide +kernel
theorem dX7_write_28 : decode cX7_write 28 = .ok (.aload_n 2, 1) := by decide +kernel
theorem dX7_write_29 : decode cX7_write 29 = .ok (.iload_n 3, 1) := by decide +kernel
set_option maxRecDepth 20000 in
theorem ggX7_write_X5_get : GoodIn wsX7_write wsX5_get := goodIn_r _ [17, 9, 18, 58, 59] rfl (by decide +kernel)
set_option maxRecDepth 20000 in
theorem gX7_write_X5_get : GoodIn wsX7_write (wsV RX7 35 RX5 yX5_get wsX5_get) := goodIn_app (goodIn_r _ [14, 15, 16, 7] rfl (by decide +kernel)) ggX7_write_X5_get
theorem dX7_write_30 : decode cX7_write 30 = .ok (.invokevirtual 35, 3) := by decide +kernel
theorem dX7_write_33 : decode cX7_write 33 = .ok (.aload_n 0, 1) := by decide +kernel
theorem dX7_write_34 : decode cX7_write 34 = .ok (.getfield 14, 3) := by decide +kernel
set_option maxRecDepth 20000 in
theorem ggX7_write_X2_encode : GoodIn wsX7_write wsX2_encode := goodIn_r _ [23, 24, 25, 26, 7, 27, 9, 18, 28, 29, 22, 30, 31, 32, 33, 34, 35, 36, 37, 38, 39, 40, 41, 42, 43, 44, 45, 46, 47, 48, 49, 50, 51, 52, 53, 54, 58, 59, 60, 61, 62, 63, 64, 65] rfl (by decide +kernel)
set_option maxRecDepth 20000 in
theorem gX7_write_X2_encode : GoodIn wsX7_write (wsV RX7 39 RX2 yX2_encode wsX2_encode) := goodIn_app (goodIn_r _ [19, 20, 21, 22] rfl (by decide +kernel)) ggX7_write_X2_encode
theorem dX7_write_37 : decode cX7_write 37 = .ok (.invokevirtual 39, 3) := by decide +kernel
theorem dX7_write_40 : decode cX7_write 40 = .ok (.ifCond .ne 10, 3) := by decide +kernel
theorem dX7_write_50 : decode cX7_write 50 = .ok (.iinc 3 1, 3) := by decide +kernel
theorem dX7_write_53 : decode cX7_write 53 = .ok (.goto (-38), 3) := by decide +kernel
theorem dX7_write_43 : decode cX7_write 43 = .ok (.aload_n 0, 1) := by decide +kernel
theorem dX7_write_44 : decode cX7_write 44 = .ok (.iload_n 3, 1) := by decide +kernel
theorem dX7_write_45 : decode cX7_write 45 = .ok (.putfield 24, 3) := by decide +kernel
theorem dX7_write_48 : decode cX7_write 48 = .ok (.iconst 0, 1) := by decide +kernel
theorem dX7_write_49 : decode cX7_write 49 = .ok (.ireturn, 1) := by decide +kernel
theorem dX7_readExactly_0 : decode cX7_readExactly 0 = .ok (.aload_n 0, 1) := by decide +kernel
theorem dX7_readExactly_1 : decode cX7_readExactly 1 = .ok (.iconst (-1), 1) := by decide +kernel
theorem dX7_readExactly_2 : decode cX7_readExactly 2 = .ok (.putfield 24, 3) := by decide +kernel
theorem dX7_readExactly_5 : decode cX7_readExactly 5 = .ok (.aload_n 3, 1) := by decide +kernel
theorem dX7_readExactly_6 : decode cX7_readExactly 6 = .ok (.iconst 0, 1) := by decide +kernel
set_option maxRecDepth 20000 in
theorem ggX7_readExactly_X5_cut : GoodIn wsX7_readExactly wsX5_cut := goodIn_r _ [11, 12, 74, 75] rfl (by decide +kernel)
set_option maxRecDepth 20000 in
theorem gX7_readExactly_X5_cut : GoodIn wsX7_readExactly (wsV RX7 28 RX5 yX5_cut wsX5_cut) := goodIn_app (goodIn_r _ [7, 8, 9, 10] rfl (by decide +kernel)) ggX7_readExactly_X5_cut
theorem dX7_readExactly_7 : decode cX7_readExactly 7 = .ok (.invokevirtual 28, 3) := by decide +kernel
theorem dX7_readExactly_10 : decode cX7_readExactly 10 = .ok (.iconst 1, 1) := by decide +kernel
theorem dX7_readExactly_11 : decode cX7_readExactly 11 = .ok (.istore 4, 2) := by decide +kernel
theorem dX7_readExactly_13 : decode cX7_readExactly 13 = .ok (.iconst 0, 1) := by decide +kernel
theorem dX7_readExactly_14 : decode cX7_readExactly 14 = .ok (.istore 5, 2) := by decide +kernel
theorem dX7_readExactly_16 : decode cX7_readExactly 16 = .ok (.iload 5, 2) := by decide +kernel
theorem dX7_readExactly_18 : decode cX7_readExactly 18 = .ok (.aload_n 2, 1) := by decide +kernel
set_option maxRecDepth 20000 in
theorem ggX7_readExactly_X5_length : GoodIn wsX7_readExactly wsX5_length := goodIn_r _ [16, 12, 74, 75] rfl (by decide +kernel)
set_option maxRecDepth 20000 in
theorem gX7_readExactly_X5_length : GoodIn wsX7_readExactly (wsV RX7 31 RX5 yX5_length wsX5_length) := goodIn_app (goodIn_r _ [13, 14, 15, 10] rfl (by decide +kernel)) ggX7_readExactly_X5_length
theorem dX7_readExactly_19 : decode cX7_readExactly 19 = .ok (.invokevirtual 31, 3) := by decide +kernel
theorem dX7_readExactly_22 : decode cX7_readExactly 22 = .ok (.if_icmp .ge 75, 3) := by decide +kernel
theorem dX7_readExactly_97 : decode cX7_readExactly 97 = .ok (.iload 4, 2) := by decide +kernel
theorem dX7_readExactly_99 : decode cX7_readExactly 99 = .ok (.ireturn, 1) := by decide +kernel
theorem dX7_readExactly_25 : decode cX7_readExactly 25 = .ok (.aload_n 0, 1) := by decide +kernel
theorem dX7_readExactly_26 : decode cX7_readExactly 26 = .ok (.getfield 20, 3) := by decide +kernel
theorem dX7_readExactly_29 : decode cX7_readExactly 29 = .ok (.iload_n 1, 1) := by decide +kernel
theorem dX7_readExactly_30 : decode cX7_readExactly 30 = .ok (.aload_n 2, 1) := by decide +kernel
theorem dX7_readExactly_31 : decode cX7_readExactly 31 = .ok (.iload 5, 2) := by decide +kernel
theorem dX7_readExactly_33 : decode cX7_readExactly 33 = .ok (.aload_n 2, 1) := by decide +kernel
theorem dX7_readExactly_34 : decode cX7_readExactly 34 = .ok (.invokevirtual 31, 3) := by decide +kernel
set_option maxRecDepth 20000 in
theorem ggX7_readExactly_X2_decode : GoodIn wsX7_readExactly wsX2_decode := goodIn_r _ [21, 22, 23, 24, 10, 25, 12, 26, 27, 28, 29, 20, 30, 31, 32, 33, 34, 35, 36, 37, 38, 39, 40, 41, 42, 43, 44, 45, 46, 47, 48, 49, 50, 51, 52, 53, 54, 55, 56, 57, 58, 59, 60, 74, 75, 76, 77, 78, 79, 80, 81] rfl (by decide +kernel)
set_option maxRecDepth 20000 in
theorem gX7_readExactly_X2_decode : GoodIn wsX7_readExactly (wsV RX7 45 RX2 yX2_decode wsX2_decode) := goodIn_app (goodIn_r _ [17, 18, 19, 20] rfl (by decide +kernel)) ggX7_readExactly_X2_decode
theorem dX7_readExactly_37 : decode cX7_readExactly 37 = .ok (.invokevirtual 45, 3) := by decide +kernel
theorem dX7_readExactly_40 : decode cX7_readExactly 40 = .ok (.istore 6, 2) := by decide +kernel
theorem dX7_readExactly_42 : decode cX7_readExactly 42 = .ok (.iload 6, 2) := by decide +kernel
theorem dX7_readExactly_44 : decode cX7_readExactly 44 = .ok (.iconst (-1), 1) := by decide +kernel
theorem dX7_readExactly_45 : decode cX7_readExactly 45 = .ok (.if_icmp .ne 11, 3) := by decide +kernel
theorem dX7_readExactly_56 : decode cX7_readExactly 56 = .ok (.aload_n 3, 1) := by decide +kernel
theorem dX7_readExactly_57 : decode cX7_readExactly 57 = .ok (.iload 6, 2) := by decide +kernel
set_option maxRecDepth 20000 in
theorem ggX7_readExactly_X2_letterIn : GoodIn wsX7_readExactly wsX2_letterIn := goodIn_r _ [63] rfl (by decide +kernel)
set_option maxRecDepth 20000 in
theorem gX7_readExactly_X2_letterIn : GoodIn wsX7_readExactly (va_wsS RX7 49 yX2_letterIn wsX2_letterIn) := goodIn_app (goodIn_r _ [61, 62, 20] rfl (by decide +kernel)) ggX7_readExactly_X2_letterIn
theorem dX7_readExactly_59 : decode cX7_readExactly 59 = .ok (.invokestatic 49, 3) := by decide +kernel
set_option maxRecDepth 20000 in
theorem ggX7_readExactly_X5_add : GoodIn wsX7_readExactly wsX5_add := goodIn_r _ [67, 12, 26, 74, 75] rfl (by decide +kernel)
set_option maxRecDepth 20000 in
theorem gX7_readExactly_X5_add : GoodIn wsX7_readExactly (wsV RX7 52 RX5 yX5_add wsX5_add) := goodIn_app (goodIn_r _ [64, 65, 66, 10] rfl (by decide +kernel)) ggX7_readExactly_X5_add
theorem dX7_readExactly_62 : decode cX7_readExactly 62 = .ok (.invokevirtual 52, 3) := by decide +kernel
theorem dX7_readExactly_65 : decode cX7_readExactly 65 = .ok (.ifCond .eq 12, 3) := by decide +kernel
theorem dX7_readExactly_77 : decode cX7_readExactly 77 = .ok (.iconst 0, 1) := by decide +kernel
theorem dX7_readExactly_78 : decode cX7_readExactly 78 = .ok (.istore 4, 2) := by decide +kernel
theorem dX7_readExactly_80 : decode cX7_readExactly 80 = .ok (.iload 5, 2) := by decide +kernel
theorem dX7_readExactly_82 : decode cX7_readExactly 82 = .ok (.iconst 1, 1) := by decide +kernel
theorem dX7_readExactly_83 : decode cX7_readExactly 83 = .ok (.iload 6, 2) := by decide +kernel
set_option maxRecDepth 20000 in
theorem ggX7_readExactly_X2_bytesIn : GoodIn wsX7_readExactly wsX2_bytesIn := goodIn_r _ [70] rfl (by decide +kernel)
set_option maxRecDepth 20000 in
theorem gX7_readExactly_X2_bytesIn : GoodIn wsX7_readExactly (va_wsS RX7 56 yX2_bytesIn wsX2_bytesIn) := goodIn_app (goodIn_r _ [68, 69, 20] rfl (by decide +kernel)) ggX7_readExactly_X2_bytesIn
theorem dX7_readExactly_85 : decode cX7_readExactly 85 = .ok (.invokestatic 56, 3) := by decide +kernel
theorem dX7_readExactly_88 : decode cX7_readExactly 88 = .ok (.invokestatic 59, 3) := by decide +kernel
theorem dX7_readExactly_91 : decode cX7_readExactly 91 = .ok (.iadd, 1) := by decide +kernel
theorem dX7_readExactly_92 : decode cX7_readExactly 92 = .ok (.istore 5, 2) := by decide +kernel
theorem dX7_readExactly_94 : decode cX7_readExactly 94 = .ok (.goto (-78), 3) := by decide +kernel
theorem dX7_readExactly_68 : decode cX7_readExactly 68 = .ok (.iload 4, 2) := by decide +kernel
theorem dX7_readExactly_70 : decode cX7_readExactly 70 = .ok (.ifCond .eq 7, 3) := by decide +kernel
theorem dX7_readExactly_73 : decode cX7_readExactly 73 = .ok (.iconst 1, 1) := by decide +kernel
theorem dX7_readExactly_74 : decode cX7_readExactly 74 = .ok (.goto 4, 3) := by decide +kernel
theorem dX7_readExactly_48 : decode cX7_readExactly 48 = .ok (.aload_n 0, 1) := by decide +kernel
theorem dX7_readExactly_49 : decode cX7_readExactly 49 = .ok (.iload 5, 2) := by decide +kernel
theorem dX7_readExactly_51 : decode cX7_readExactly 51 = .ok (.putfield 24, 3) := by decide +kernel
theorem dX7_readExactly_54 : decode cX7_readExactly 54 = .ok (.iconst 0, 1) := by decide +kernel
theorem dX7_readExactly_55 : decode cX7_readExactly 55 = .ok (.ireturn, 1) := by decide +kernel
theorem dX7_pass_0 : decode cX7_pass 0 = .ok (.aload_n 0, 1) := by decide +kernel
theorem dX7_pass_1 : decode cX7_pass 1 = .ok (.iload_n 1, 1) := by decide +kernel
theorem dX7_pass_2 : decode cX7_pass 2 = .ok (.aload_n 3, 1) := by decide +kernel
set_option maxRecDepth 20000 in
theorem ggX7_pass_X7_write : GoodIn wsX7_pass wsX7_write := goodIn_r _ [6, 7, 1, 8, 9, 10, 11, 12, 13, 14, 15, 16, 17, 18, 19, 20, 21, 22, 23, 24, 25, 26, 27, 28, 29, 30, 31, 32, 33, 34, 35, 36, 37, 38, 39, 40, 41, 42, 43, 44, 45, 46, 47, 48, 49, 50, 51, 52, 53, 54, 55, 56, 57, 58, 59, 104, 105, 106, 107, 108, 109, 110, 111, 112, 113, 114] rfl (by decide +kernel)
set_option maxRecDepth 20000 in
theorem gX7_pass_X7_write : GoodIn wsX7_pass (wsV RX7 65 RX7 yX7_write wsX7_write) := goodIn_app (goodIn_r _ [2, 3, 4, 5] rfl (by decide +kernel)) ggX7_pass_X7_write
theorem dX7_pass_3 : decode cX7_pass 3 = .ok (.invokevirtual 65, 3) := by decide +kernel
theorem dX7_pass_6 : decode cX7_pass 6 = .ok (.ifCond .eq 34, 3) := by decide +kernel
theorem dX7_pass_40 : decode cX7_pass 40 = .ok (.iconst 0, 1) := by decide +kernel
theorem dX7_pass_41 : decode cX7_pass 41 = .ok (.ireturn, 1) := by decide +kernel
theorem dX7_pass_9 : decode cX7_pass 9 = .ok (.aload_n 0, 1) := by decide +kernel
theorem dX7_pass_10 : decode cX7_pass 10 = .ok (.iload_n 2, 1) := by decide +kernel
theorem dX7_pass_11 : decode cX7_pass 11 = .ok (.aload_n 0, 1) := by decide +kernel
theorem dX7_pass_12 : decode cX7_pass 12 = .ok (.getfield 14, 3) := by decide +kernel
theorem dX7_pass_15 : decode cX7_pass 15 = .ok (.aload 4, 2) := by decide +kernel
set_option maxRecDepth 20000 in
theorem ggX7_pass_X7_readExactly : GoodIn wsX7_pass wsX7_readExactly := goodIn_r _ [63, 7, 8, 64, 65, 66, 67, 9, 10, 11, 12, 13, 14, 15, 16, 17, 18, 68, 69, 70, 27, 71, 72, 20, 21, 22, 23, 73, 74, 75, 76, 42, 43, 44, 45, 46, 47, 77, 78, 79, 51, 80, 81, 82, 83, 84, 85, 86, 87, 88, 89, 90, 91, 92, 93, 94, 95, 96, 36, 37, 38, 97, 98, 99, 100, 30, 31, 32, 101, 102, 103, 104, 105, 106, 107, 108, 109, 110, 111, 112, 113, 114] rfl (by decide +kernel)
set_option maxRecDepth 20000 in
theorem gX7_pass_X7_readExactly : GoodIn wsX7_pass (wsV RX7 69 RX7 yX7_readExactly wsX7_readExactly) := goodIn_app (goodIn_r _ [60, 61, 62, 5] rfl (by decide +kernel)) ggX7_pass_X7_readExactly
theorem dX7_pass_17 : decode cX7_pass 17 = .ok (.invokevirtual 69, 3) := by decide +kernel
theorem dX7_pass_20 : decode cX7_pass 20 = .ok (.ifCond .eq 20, 3) := by decide +kernel
theorem dX7_pass_23 : decode cX7_pass 23 = .ok (.aload_n 0, 1) := by decide +kernel
theorem dX7_pass_24 : decode cX7_pass 24 = .ok (.getfield 14, 3) := by decide +kernel
set_option maxRecDepth 20000 in
theorem ggX7_pass_X5_length : GoodIn wsX7_pass wsX5_length := goodIn_r _ [18, 14, 107, 108] rfl (by decide +kernel)
set_option maxRecDepth 20000 in
theorem gX7_pass_X5_length : GoodIn wsX7_pass (wsV RX7 31 RX5 yX5_length wsX5_length) := goodIn_app (goodIn_r _ [15, 16, 17, 12] rfl (by decide +kernel)) ggX7_pass_X5_length
theorem dX7_pass_27 : decode cX7_pass 27 = .ok (.invokevirtual 31, 3) := by decide +kernel
theorem dX7_pass_30 : decode cX7_pass 30 = .ok (.sipush 900, 3) := by decide +kernel
theorem dX7_pass_33 : decode cX7_pass 33 = .ok (.if_icmp .gt 7, 3) := by decide +kernel
theorem dX7_pass_36 : decode cX7_pass 36 = .ok (.iconst 1, 1) := by decide +kernel
theorem dX7_pass_37 : decode cX7_pass 37 = .ok (.goto 4, 3) := by decide +kernel
