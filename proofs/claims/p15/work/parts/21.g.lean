/-! 26.a.rows -/
section
set_option maxRecDepth 100000 in
theorem dA48_cX7_fault : kDec cX7_fault [(0, .aload_n 0, 1), (1, .getfield 24, 3), (4, .ireturn, 1)] = true := by decide +kernel
theorem dX7_fault_0 : decode cX7_fault 0 = .ok (.aload_n 0, 1) := kDec_at dA48_cX7_fault 0 rfl
theorem dX7_fault_1 : decode cX7_fault 1 = .ok (.getfield 24, 3) := kDec_at dA48_cX7_fault 1 rfl
theorem dX7_fault_4 : decode cX7_fault 4 = .ok (.ireturn, 1) := kDec_at dA48_cX7_fault 2 rfl
set_option maxRecDepth 100000 in
theorem dA49_cX7_bytes : kDec cX7_bytes [(0, .aload_n 0, 1), (1, .getfield 14, 3), (4, .areturn, 1)] = true := by decide +kernel
theorem dX7_bytes_0 : decode cX7_bytes 0 = .ok (.aload_n 0, 1) := kDec_at dA49_cX7_bytes 0 rfl
theorem dX7_bytes_1 : decode cX7_bytes 1 = .ok (.getfield 14, 3) := kDec_at dA49_cX7_bytes 1 rfl
theorem dX7_bytes_4 : decode cX7_bytes 4 = .ok (.areturn, 1) := kDec_at dA49_cX7_bytes 2 rfl
set_option maxRecDepth 100000 in
theorem dA50_cX7_write : kDec cX7_write [(0, .aload_n 0, 1), (1, .iconst (-1), 1), (2, .putfield 24, 3), (5, .aload_n 0, 1), (6, .getfield 14, 3), (9, .iconst 0, 1), (10, .invokevirtual 28, 3), (13, .iconst 0, 1), (14, .istore_n 3, 1), (15, .iload_n 3, 1), (16, .aload_n 2, 1), (17, .invokevirtual 31, 3), (20, .if_icmp .ge 36, 3), (56, .iconst 1, 1), (57, .ireturn, 1), (23, .aload_n 0, 1), (24, .getfield 20, 3), (27, .iload_n 1, 1), (28, .aload_n 2, 1), (29, .iload_n 3, 1), (30, .invokevirtual 35, 3), (33, .aload_n 0, 1), (34, .getfield 14, 3), (37, .invokevirtual 39, 3)] = true := by decide +kernel
theorem dX7_write_0 : decode cX7_write 0 = .ok (.aload_n 0, 1) := kDec_at dA50_cX7_write 0 rfl
theorem dX7_write_1 : decode cX7_write 1 = .ok (.iconst (-1), 1) := kDec_at dA50_cX7_write 1 rfl
theorem dX7_write_2 : decode cX7_write 2 = .ok (.putfield 24, 3) := kDec_at dA50_cX7_write 2 rfl
theorem dX7_write_5 : decode cX7_write 5 = .ok (.aload_n 0, 1) := kDec_at dA50_cX7_write 3 rfl
theorem dX7_write_6 : decode cX7_write 6 = .ok (.getfield 14, 3) := kDec_at dA50_cX7_write 4 rfl
theorem dX7_write_9 : decode cX7_write 9 = .ok (.iconst 0, 1) := kDec_at dA50_cX7_write 5 rfl
theorem dX7_write_10 : decode cX7_write 10 = .ok (.invokevirtual 28, 3) := kDec_at dA50_cX7_write 6 rfl
theorem dX7_write_13 : decode cX7_write 13 = .ok (.iconst 0, 1) := kDec_at dA50_cX7_write 7 rfl
theorem dX7_write_14 : decode cX7_write 14 = .ok (.istore_n 3, 1) := kDec_at dA50_cX7_write 8 rfl
theorem dX7_write_15 : decode cX7_write 15 = .ok (.iload_n 3, 1) := kDec_at dA50_cX7_write 9 rfl
theorem dX7_write_16 : decode cX7_write 16 = .ok (.aload_n 2, 1) := kDec_at dA50_cX7_write 10 rfl
theorem dX7_write_17 : decode cX7_write 17 = .ok (.invokevirtual 31, 3) := kDec_at dA50_cX7_write 11 rfl
theorem dX7_write_20 : decode cX7_write 20 = .ok (.if_icmp .ge 36, 3) := kDec_at dA50_cX7_write 12 rfl
theorem dX7_write_56 : decode cX7_write 56 = .ok (.iconst 1, 1) := kDec_at dA50_cX7_write 13 rfl
theorem dX7_write_57 : decode cX7_write 57 = .ok (.ireturn, 1) := kDec_at dA50_cX7_write 14 rfl
theorem dX7_write_23 : decode cX7_write 23 = .ok (.aload_n 0, 1) := kDec_at dA50_cX7_write 15 rfl
theorem dX7_write_24 : decode cX7_write 24 = .ok (.getfield 20, 3) := kDec_at dA50_cX7_write 16 rfl
theorem dX7_write_27 : decode cX7_write 27 = .ok (.iload_n 1, 1) := kDec_at dA50_cX7_write 17 rfl
theorem dX7_write_28 : decode cX7_write 28 = .ok (.aload_n 2, 1) := kDec_at dA50_cX7_write 18 rfl
theorem dX7_write_29 : decode cX7_write 29 = .ok (.iload_n 3, 1) := kDec_at dA50_cX7_write 19 rfl
theorem dX7_write_30 : decode cX7_write 30 = .ok (.invokevirtual 35, 3) := kDec_at dA50_cX7_write 20 rfl
theorem dX7_write_33 : decode cX7_write 33 = .ok (.aload_n 0, 1) := kDec_at dA50_cX7_write 21 rfl
theorem dX7_write_34 : decode cX7_write 34 = .ok (.getfield 14, 3) := kDec_at dA50_cX7_write 22 rfl
theorem dX7_write_37 : decode cX7_write 37 = .ok (.invokevirtual 39, 3) := kDec_at dA50_cX7_write 23 rfl
set_option maxRecDepth 20000 in
theorem ggX7_write_X5_cut : GoodIn wsX7_write wsX5_cut := goodIn_r _ [8, 9, 58, 59] rfl (by decide +kernel)
set_option maxRecDepth 20000 in
theorem gX7_write_X5_cut : GoodIn wsX7_write (wsV RX7 28 RX5 yX5_cut wsX5_cut) := goodIn_app (goodIn_r _ [4, 5, 6, 7] rfl (by decide +kernel)) ggX7_write_X5_cut
set_option maxRecDepth 20000 in
theorem ggX7_write_X5_length : GoodIn wsX7_write wsX5_length := goodIn_r _ [13, 9, 58, 59] rfl (by decide +kernel)
set_option maxRecDepth 20000 in
theorem gX7_write_X5_length : GoodIn wsX7_write (wsV RX7 31 RX5 yX5_length wsX5_length) := goodIn_app (goodIn_r _ [10, 11, 12, 7] rfl (by decide +kernel)) ggX7_write_X5_length
set_option maxRecDepth 20000 in
theorem ggX7_write_X5_get : GoodIn wsX7_write wsX5_get := goodIn_r _ [17, 9, 18, 58, 59] rfl (by decide +kernel)
set_option maxRecDepth 20000 in
theorem gX7_write_X5_get : GoodIn wsX7_write (wsV RX7 35 RX5 yX5_get wsX5_get) := goodIn_app (goodIn_r _ [14, 15, 16, 7] rfl (by decide +kernel)) ggX7_write_X5_get
set_option maxRecDepth 20000 in
theorem ggX7_write_X2_encode : GoodIn wsX7_write wsX2_encode := goodIn_r _ [23, 24, 25, 26, 7, 27, 9, 18, 28, 29, 22, 30, 31, 32, 33, 34, 35, 36, 37, 38, 39, 40, 41, 42, 43, 44, 45, 46, 47, 48, 49, 50, 51, 52, 53, 54, 58, 59, 60, 61, 62, 63, 64, 65] rfl (by decide +kernel)
set_option maxRecDepth 20000 in
theorem gX7_write_X2_encode : GoodIn wsX7_write (wsV RX7 39 RX2 yX2_encode wsX2_encode) := goodIn_app (goodIn_r _ [19, 20, 21, 22] rfl (by decide +kernel)) ggX7_write_X2_encode
set_option maxRecDepth 100000 in
theorem dA51_cX7_write : kDec cX7_write [(40, .ifCond .ne 10, 3), (50, .iinc 3 1, 3), (53, .goto (-38), 3), (43, .aload_n 0, 1), (44, .iload_n 3, 1), (45, .putfield 24, 3), (48, .iconst 0, 1), (49, .ireturn, 1)] = true := by decide +kernel
theorem dX7_write_40 : decode cX7_write 40 = .ok (.ifCond .ne 10, 3) := kDec_at dA51_cX7_write 0 rfl
theorem dX7_write_50 : decode cX7_write 50 = .ok (.iinc 3 1, 3) := kDec_at dA51_cX7_write 1 rfl
theorem dX7_write_53 : decode cX7_write 53 = .ok (.goto (-38), 3) := kDec_at dA51_cX7_write 2 rfl
theorem dX7_write_43 : decode cX7_write 43 = .ok (.aload_n 0, 1) := kDec_at dA51_cX7_write 3 rfl
theorem dX7_write_44 : decode cX7_write 44 = .ok (.iload_n 3, 1) := kDec_at dA51_cX7_write 4 rfl
theorem dX7_write_45 : decode cX7_write 45 = .ok (.putfield 24, 3) := kDec_at dA51_cX7_write 5 rfl
theorem dX7_write_48 : decode cX7_write 48 = .ok (.iconst 0, 1) := kDec_at dA51_cX7_write 6 rfl
theorem dX7_write_49 : decode cX7_write 49 = .ok (.ireturn, 1) := kDec_at dA51_cX7_write 7 rfl
set_option maxRecDepth 100000 in
theorem dA52_cX7_readExactly : kDec cX7_readExactly [(0, .aload_n 0, 1), (1, .iconst (-1), 1), (2, .putfield 24, 3), (5, .aload_n 3, 1), (6, .iconst 0, 1), (7, .invokevirtual 28, 3), (10, .iconst 1, 1), (11, .istore 4, 2), (13, .iconst 0, 1), (14, .istore 5, 2), (16, .iload 5, 2), (18, .aload_n 2, 1), (19, .invokevirtual 31, 3), (22, .if_icmp .ge 75, 3), (97, .iload 4, 2), (99, .ireturn, 1), (25, .aload_n 0, 1), (26, .getfield 20, 3), (29, .iload_n 1, 1), (30, .aload_n 2, 1), (31, .iload 5, 2), (33, .aload_n 2, 1), (34, .invokevirtual 31, 3), (37, .invokevirtual 45, 3)] = true := by decide +kernel
theorem dX7_readExactly_0 : decode cX7_readExactly 0 = .ok (.aload_n 0, 1) := kDec_at dA52_cX7_readExactly 0 rfl
theorem dX7_readExactly_1 : decode cX7_readExactly 1 = .ok (.iconst (-1), 1) := kDec_at dA52_cX7_readExactly 1 rfl
theorem dX7_readExactly_2 : decode cX7_readExactly 2 = .ok (.putfield 24, 3) := kDec_at dA52_cX7_readExactly 2 rfl
theorem dX7_readExactly_5 : decode cX7_readExactly 5 = .ok (.aload_n 3, 1) := kDec_at dA52_cX7_readExactly 3 rfl
theorem dX7_readExactly_6 : decode cX7_readExactly 6 = .ok (.iconst 0, 1) := kDec_at dA52_cX7_readExactly 4 rfl
theorem dX7_readExactly_7 : decode cX7_readExactly 7 = .ok (.invokevirtual 28, 3) := kDec_at dA52_cX7_readExactly 5 rfl
theorem dX7_readExactly_10 : decode cX7_readExactly 10 = .ok (.iconst 1, 1) := kDec_at dA52_cX7_readExactly 6 rfl
theorem dX7_readExactly_11 : decode cX7_readExactly 11 = .ok (.istore 4, 2) := kDec_at dA52_cX7_readExactly 7 rfl
theorem dX7_readExactly_13 : decode cX7_readExactly 13 = .ok (.iconst 0, 1) := kDec_at dA52_cX7_readExactly 8 rfl
theorem dX7_readExactly_14 : decode cX7_readExactly 14 = .ok (.istore 5, 2) := kDec_at dA52_cX7_readExactly 9 rfl
theorem dX7_readExactly_16 : decode cX7_readExactly 16 = .ok (.iload 5, 2) := kDec_at dA52_cX7_readExactly 10 rfl
theorem dX7_readExactly_18 : decode cX7_readExactly 18 = .ok (.aload_n 2, 1) := kDec_at dA52_cX7_readExactly 11 rfl
theorem dX7_readExactly_19 : decode cX7_readExactly 19 = .ok (.invokevirtual 31, 3) := kDec_at dA52_cX7_readExactly 12 rfl
theorem dX7_readExactly_22 : decode cX7_readExactly 22 = .ok (.if_icmp .ge 75, 3) := kDec_at dA52_cX7_readExactly 13 rfl
theorem dX7_readExactly_97 : decode cX7_readExactly 97 = .ok (.iload 4, 2) := kDec_at dA52_cX7_readExactly 14 rfl
theorem dX7_readExactly_99 : decode cX7_readExactly 99 = .ok (.ireturn, 1) := kDec_at dA52_cX7_readExactly 15 rfl
theorem dX7_readExactly_25 : decode cX7_readExactly 25 = .ok (.aload_n 0, 1) := kDec_at dA52_cX7_readExactly 16 rfl
theorem dX7_readExactly_26 : decode cX7_readExactly 26 = .ok (.getfield 20, 3) := kDec_at dA52_cX7_readExactly 17 rfl
theorem dX7_readExactly_29 : decode cX7_readExactly 29 = .ok (.iload_n 1, 1) := kDec_at dA52_cX7_readExactly 18 rfl
theorem dX7_readExactly_30 : decode cX7_readExactly 30 = .ok (.aload_n 2, 1) := kDec_at dA52_cX7_readExactly 19 rfl
theorem dX7_readExactly_31 : decode cX7_readExactly 31 = .ok (.iload 5, 2) := kDec_at dA52_cX7_readExactly 20 rfl
theorem dX7_readExactly_33 : decode cX7_readExactly 33 = .ok (.aload_n 2, 1) := kDec_at dA52_cX7_readExactly 21 rfl
theorem dX7_readExactly_34 : decode cX7_readExactly 34 = .ok (.invokevirtual 31, 3) := kDec_at dA52_cX7_readExactly 22 rfl
theorem dX7_readExactly_37 : decode cX7_readExactly 37 = .ok (.invokevirtual 45, 3) := kDec_at dA52_cX7_readExactly 23 rfl
set_option maxRecDepth 20000 in
theorem ggX7_readExactly_X5_cut : GoodIn wsX7_readExactly wsX5_cut := goodIn_r _ [11, 12, 74, 75] rfl (by decide +kernel)
set_option maxRecDepth 20000 in
theorem gX7_readExactly_X5_cut : GoodIn wsX7_readExactly (wsV RX7 28 RX5 yX5_cut wsX5_cut) := goodIn_app (goodIn_r _ [7, 8, 9, 10] rfl (by decide +kernel)) ggX7_readExactly_X5_cut
set_option maxRecDepth 20000 in
theorem ggX7_readExactly_X5_length : GoodIn wsX7_readExactly wsX5_length := goodIn_r _ [16, 12, 74, 75] rfl (by decide +kernel)
set_option maxRecDepth 20000 in
theorem gX7_readExactly_X5_length : GoodIn wsX7_readExactly (wsV RX7 31 RX5 yX5_length wsX5_length) := goodIn_app (goodIn_r _ [13, 14, 15, 10] rfl (by decide +kernel)) ggX7_readExactly_X5_length
set_option maxRecDepth 20000 in
theorem ggX7_readExactly_X2_decode : GoodIn wsX7_readExactly wsX2_decode := goodIn_r _ [21, 22, 23, 24, 10, 25, 12, 26, 27, 28, 29, 20, 30, 31, 32, 33, 34, 35, 36, 37, 38, 39, 40, 41, 42, 43, 44, 45, 46, 47, 48, 49, 50, 51, 52, 53, 54, 55, 56, 57, 58, 59, 60, 74, 75, 76, 77, 78, 79, 80, 81] rfl (by decide +kernel)
set_option maxRecDepth 20000 in
theorem gX7_readExactly_X2_decode : GoodIn wsX7_readExactly (wsV RX7 45 RX2 yX2_decode wsX2_decode) := goodIn_app (goodIn_r _ [17, 18, 19, 20] rfl (by decide +kernel)) ggX7_readExactly_X2_decode
set_option maxRecDepth 100000 in
theorem dA53_cX7_readExactly : kDec cX7_readExactly [(40, .istore 6, 2), (42, .iload 6, 2), (44, .iconst (-1), 1), (45, .if_icmp .ne 11, 3), (56, .aload_n 3, 1), (57, .iload 6, 2), (59, .invokestatic 49, 3), (62, .invokevirtual 52, 3), (65, .ifCond .eq 12, 3), (77, .iconst 0, 1), (78, .istore 4, 2), (80, .iload 5, 2), (82, .iconst 1, 1), (83, .iload 6, 2), (85, .invokestatic 56, 3), (88, .invokestatic 59, 3), (91, .iadd, 1), (92, .istore 5, 2), (94, .goto (-78), 3), (68, .iload 4, 2), (70, .ifCond .eq 7, 3), (73, .iconst 1, 1), (74, .goto 4, 3), (48, .aload_n 0, 1)] = true := by decide +kernel
theorem dX7_readExactly_40 : decode cX7_readExactly 40 = .ok (.istore 6, 2) := kDec_at dA53_cX7_readExactly 0 rfl
theorem dX7_readExactly_42 : decode cX7_readExactly 42 = .ok (.iload 6, 2) := kDec_at dA53_cX7_readExactly 1 rfl
theorem dX7_readExactly_44 : decode cX7_readExactly 44 = .ok (.iconst (-1), 1) := kDec_at dA53_cX7_readExactly 2 rfl
theorem dX7_readExactly_45 : decode cX7_readExactly 45 = .ok (.if_icmp .ne 11, 3) := kDec_at dA53_cX7_readExactly 3 rfl
theorem dX7_readExactly_56 : decode cX7_readExactly 56 = .ok (.aload_n 3, 1) := kDec_at dA53_cX7_readExactly 4 rfl
theorem dX7_readExactly_57 : decode cX7_readExactly 57 = .ok (.iload 6, 2) := kDec_at dA53_cX7_readExactly 5 rfl
theorem dX7_readExactly_59 : decode cX7_readExactly 59 = .ok (.invokestatic 49, 3) := kDec_at dA53_cX7_readExactly 6 rfl
theorem dX7_readExactly_62 : decode cX7_readExactly 62 = .ok (.invokevirtual 52, 3) := kDec_at dA53_cX7_readExactly 7 rfl
theorem dX7_readExactly_65 : decode cX7_readExactly 65 = .ok (.ifCond .eq 12, 3) := kDec_at dA53_cX7_readExactly 8 rfl
theorem dX7_readExactly_77 : decode cX7_readExactly 77 = .ok (.iconst 0, 1) := kDec_at dA53_cX7_readExactly 9 rfl
theorem dX7_readExactly_78 : decode cX7_readExactly 78 = .ok (.istore 4, 2) := kDec_at dA53_cX7_readExactly 10 rfl
theorem dX7_readExactly_80 : decode cX7_readExactly 80 = .ok (.iload 5, 2) := kDec_at dA53_cX7_readExactly 11 rfl
theorem dX7_readExactly_82 : decode cX7_readExactly 82 = .ok (.iconst 1, 1) := kDec_at dA53_cX7_readExactly 12 rfl
theorem dX7_readExactly_83 : decode cX7_readExactly 83 = .ok (.iload 6, 2) := kDec_at dA53_cX7_readExactly 13 rfl
theorem dX7_readExactly_85 : decode cX7_readExactly 85 = .ok (.invokestatic 56, 3) := kDec_at dA53_cX7_readExactly 14 rfl
theorem dX7_readExactly_88 : decode cX7_readExactly 88 = .ok (.invokestatic 59, 3) := kDec_at dA53_cX7_readExactly 15 rfl
theorem dX7_readExactly_91 : decode cX7_readExactly 91 = .ok (.iadd, 1) := kDec_at dA53_cX7_readExactly 16 rfl
theorem dX7_readExactly_92 : decode cX7_readExactly 92 = .ok (.istore 5, 2) := kDec_at dA53_cX7_readExactly 17 rfl
theorem dX7_readExactly_94 : decode cX7_readExactly 94 = .ok (.goto (-78), 3) := kDec_at dA53_cX7_readExactly 18 rfl
theorem dX7_readExactly_68 : decode cX7_readExactly 68 = .ok (.iload 4, 2) := kDec_at dA53_cX7_readExactly 19 rfl
theorem dX7_readExactly_70 : decode cX7_readExactly 70 = .ok (.ifCond .eq 7, 3) := kDec_at dA53_cX7_readExactly 20 rfl
theorem dX7_readExactly_73 : decode cX7_readExactly 73 = .ok (.iconst 1, 1) := kDec_at dA53_cX7_readExactly 21 rfl
theorem dX7_readExactly_74 : decode cX7_readExactly 74 = .ok (.goto 4, 3) := kDec_at dA53_cX7_readExactly 22 rfl
theorem dX7_readExactly_48 : decode cX7_readExactly 48 = .ok (.aload_n 0, 1) := kDec_at dA53_cX7_readExactly 23 rfl
set_option maxRecDepth 20000 in
theorem ggX7_readExactly_X2_letterIn : GoodIn wsX7_readExactly wsX2_letterIn := goodIn_r _ [63] rfl (by decide +kernel)
set_option maxRecDepth 20000 in
theorem gX7_readExactly_X2_letterIn : GoodIn wsX7_readExactly (va_wsS RX7 49 yX2_letterIn wsX2_letterIn) := goodIn_app (goodIn_r _ [61, 62, 20] rfl (by decide +kernel)) ggX7_readExactly_X2_letterIn
set_option maxRecDepth 20000 in
theorem ggX7_readExactly_X5_add : GoodIn wsX7_readExactly wsX5_add := goodIn_r _ [67, 12, 26, 74, 75] rfl (by decide +kernel)
set_option maxRecDepth 20000 in
theorem gX7_readExactly_X5_add : GoodIn wsX7_readExactly (wsV RX7 52 RX5 yX5_add wsX5_add) := goodIn_app (goodIn_r _ [64, 65, 66, 10] rfl (by decide +kernel)) ggX7_readExactly_X5_add
set_option maxRecDepth 20000 in
theorem ggX7_readExactly_X2_bytesIn : GoodIn wsX7_readExactly wsX2_bytesIn := goodIn_r _ [70] rfl (by decide +kernel)
set_option maxRecDepth 20000 in
theorem gX7_readExactly_X2_bytesIn : GoodIn wsX7_readExactly (va_wsS RX7 56 yX2_bytesIn wsX2_bytesIn) := goodIn_app (goodIn_r _ [68, 69, 20] rfl (by decide +kernel)) ggX7_readExactly_X2_bytesIn
set_option maxRecDepth 100000 in
theorem dA54_cX7_readExactly : kDec cX7_readExactly [(49, .iload 5, 2), (51, .putfield 24, 3), (54, .iconst 0, 1), (55, .ireturn, 1)] = true := by decide +kernel
theorem dX7_readExactly_49 : decode cX7_readExactly 49 = .ok (.iload 5, 2) := kDec_at dA54_cX7_readExactly 0 rfl
theorem dX7_readExactly_51 : decode cX7_readExactly 51 = .ok (.putfield 24, 3) := kDec_at dA54_cX7_readExactly 1 rfl
theorem dX7_readExactly_54 : decode cX7_readExactly 54 = .ok (.iconst 0, 1) := kDec_at dA54_cX7_readExactly 2 rfl
theorem dX7_readExactly_55 : decode cX7_readExactly 55 = .ok (.ireturn, 1) := kDec_at dA54_cX7_readExactly 3 rfl
set_option maxRecDepth 100000 in
theorem dA55_cX7_pass : kDec cX7_pass [(0, .aload_n 0, 1), (1, .iload_n 1, 1), (2, .aload_n 3, 1), (3, .invokevirtual 65, 3), (6, .ifCond .eq 34, 3), (40, .iconst 0, 1), (41, .ireturn, 1), (9, .aload_n 0, 1), (10, .iload_n 2, 1), (11, .aload_n 0, 1), (12, .getfield 14, 3), (15, .aload 4, 2), (17, .invokevirtual 69, 3), (20, .ifCond .eq 20, 3), (23, .aload_n 0, 1), (24, .getfield 14, 3), (27, .invokevirtual 31, 3), (30, .sipush 900, 3), (33, .if_icmp .gt 7, 3), (36, .iconst 1, 1), (37, .goto 4, 3)] = true := by decide +kernel
theorem dX7_pass_0 : decode cX7_pass 0 = .ok (.aload_n 0, 1) := kDec_at dA55_cX7_pass 0 rfl
theorem dX7_pass_1 : decode cX7_pass 1 = .ok (.iload_n 1, 1) := kDec_at dA55_cX7_pass 1 rfl
theorem dX7_pass_2 : decode cX7_pass 2 = .ok (.aload_n 3, 1) := kDec_at dA55_cX7_pass 2 rfl
theorem dX7_pass_3 : decode cX7_pass 3 = .ok (.invokevirtual 65, 3) := kDec_at dA55_cX7_pass 3 rfl
theorem dX7_pass_6 : decode cX7_pass 6 = .ok (.ifCond .eq 34, 3) := kDec_at dA55_cX7_pass 4 rfl
theorem dX7_pass_40 : decode cX7_pass 40 = .ok (.iconst 0, 1) := kDec_at dA55_cX7_pass 5 rfl
theorem dX7_pass_41 : decode cX7_pass 41 = .ok (.ireturn, 1) := kDec_at dA55_cX7_pass 6 rfl
theorem dX7_pass_9 : decode cX7_pass 9 = .ok (.aload_n 0, 1) := kDec_at dA55_cX7_pass 7 rfl
theorem dX7_pass_10 : decode cX7_pass 10 = .ok (.iload_n 2, 1) := kDec_at dA55_cX7_pass 8 rfl
theorem dX7_pass_11 : decode cX7_pass 11 = .ok (.aload_n 0, 1) := kDec_at dA55_cX7_pass 9 rfl
theorem dX7_pass_12 : decode cX7_pass 12 = .ok (.getfield 14, 3) := kDec_at dA55_cX7_pass 10 rfl
theorem dX7_pass_15 : decode cX7_pass 15 = .ok (.aload 4, 2) := kDec_at dA55_cX7_pass 11 rfl
theorem dX7_pass_17 : decode cX7_pass 17 = .ok (.invokevirtual 69, 3) := kDec_at dA55_cX7_pass 12 rfl
theorem dX7_pass_20 : decode cX7_pass 20 = .ok (.ifCond .eq 20, 3) := kDec_at dA55_cX7_pass 13 rfl
theorem dX7_pass_23 : decode cX7_pass 23 = .ok (.aload_n 0, 1) := kDec_at dA55_cX7_pass 14 rfl
theorem dX7_pass_24 : decode cX7_pass 24 = .ok (.getfield 14, 3) := kDec_at dA55_cX7_pass 15 rfl
theorem dX7_pass_27 : decode cX7_pass 27 = .ok (.invokevirtual 31, 3) := kDec_at dA55_cX7_pass 16 rfl
theorem dX7_pass_30 : decode cX7_pass 30 = .ok (.sipush 900, 3) := kDec_at dA55_cX7_pass 17 rfl
theorem dX7_pass_33 : decode cX7_pass 33 = .ok (.if_icmp .gt 7, 3) := kDec_at dA55_cX7_pass 18 rfl
theorem dX7_pass_36 : decode cX7_pass 36 = .ok (.iconst 1, 1) := kDec_at dA55_cX7_pass 19 rfl
theorem dX7_pass_37 : decode cX7_pass 37 = .ok (.goto 4, 3) := kDec_at dA55_cX7_pass 20 rfl
set_option maxRecDepth 20000 in
theorem ggX7_pass_X7_write : GoodIn wsX7_pass wsX7_write := goodIn_r _ [6, 7, 1, 8, 9, 10, 11, 12, 13, 14, 15, 16, 17, 18, 19, 20, 21, 22, 23, 24, 25, 26, 27, 28, 29, 30, 31, 32, 33, 34, 35, 36, 37, 38, 39, 40, 41, 42, 43, 44, 45, 46, 47, 48, 49, 50, 51, 52, 53, 54, 55, 56, 57, 58, 59, 104, 105, 106, 107, 108, 109, 110, 111, 112, 113, 114] rfl (by decide +kernel)
set_option maxRecDepth 20000 in
theorem gX7_pass_X7_write : GoodIn wsX7_pass (wsV RX7 65 RX7 yX7_write wsX7_write) := goodIn_app (goodIn_r _ [2, 3, 4, 5] rfl (by decide +kernel)) ggX7_pass_X7_write
set_option maxRecDepth 20000 in
theorem ggX7_pass_X7_readExactly : GoodIn wsX7_pass wsX7_readExactly := goodIn_r _ [63, 7, 8, 64, 65, 66, 67, 9, 10, 11, 12, 13, 14, 15, 16, 17, 18, 68, 69, 70, 27, 71, 72, 20, 21, 22, 23, 73, 74, 75, 76, 42, 43, 44, 45, 46, 47, 77, 78, 79, 51, 80, 81, 82, 83, 84, 85, 86, 87, 88, 89, 90, 91, 92, 93, 94, 95, 96, 36, 37, 38, 97, 98, 99, 100, 30, 31, 32, 101, 102, 103, 104, 105, 106, 107, 108, 109, 110, 111, 112, 113, 114] rfl (by decide +kernel)
set_option maxRecDepth 20000 in
theorem gX7_pass_X7_readExactly : GoodIn wsX7_pass (wsV RX7 69 RX7 yX7_readExactly wsX7_readExactly) := goodIn_app (goodIn_r _ [60, 61, 62, 5] rfl (by decide +kernel)) ggX7_pass_X7_readExactly
set_option maxRecDepth 20000 in
theorem ggX7_pass_X5_length : GoodIn wsX7_pass wsX5_length := goodIn_r _ [18, 14, 107, 108] rfl (by decide +kernel)
set_option maxRecDepth 20000 in
theorem gX7_pass_X5_length : GoodIn wsX7_pass (wsV RX7 31 RX5 yX5_length wsX5_length) := goodIn_app (goodIn_r _ [15, 16, 17, 12] rfl (by decide +kernel)) ggX7_pass_X5_length

end

/-! 26.passage -/
section
set_option maxHeartbeats 40000000 in
set_option maxRecDepth 100000 in
theorem m_X7_fault (l : Launch) (dC : Nat → ClassId) (dI : Nat → Nat → Nat) (cI cS : ClassId) (sz : Nat) (oP : Nat) (oC : Nat) (nB : Nat) (ft : Int32)  : kMi l yX7_fault wsX7_fault ({ frames := 0, cells := 0, slots := 0, locals := 0 } : Room) [.ref oP] sz (dC, dI) vwCl [(cI, .int), (cS, .short)] [(oP, .inr (7, [.ref oC, .ref nB, .int ft]))] (fun _ => True) 0 0 (fun (A : Nat → Prop) (r : Int32) (hh9 : Heap) => kPD (dC, dI) vwCl A [(oP, .inr (7, [.ref oC, .ref nB, .int ft]))] hh9 ∧ (r = ft)) := by
  refine kMi_of (cc := cX7_fault) (maxL := 1) (ret := (some .int)) (lv := [(0, .ref oP)]) (by decide +kernel) rfl rfl (Nat.le_of_ble_eq_true rfl) ?_
  intro p e s m below meth c A QQ ls hx hb hr hts hml hown hlocks hA hQQ hK hX hP hD hS hl
  have hown : s.vm.findClass RX7 = some m.cls := hown
  have hcf := k_cf hx hb hml hown hts
  have in_X7 : ∀ w ∈ wsX70, w ∈ wsX7_fault := fun _ h => List.mem_cons_of_mem _ (List.mem_append_right _ (h))
  refine lv_aload_n hx hb dX7_fault_0 rfl (lv_at hl 0 rfl) ?_
  refine va_get (D := (dC, dI)) (ci := 7) (v := .int ft) (C := RX7) (T := TX7) (N := 3) hx hb hts in_X7 hown hK hP 0 rfl rfl 2 (by decide) (hts (.fieldLink RX7 24 "TextMender$Passage" "fault" "I") (List.mem_of_getElem? (i := 1) rfl)) (fun _ h9 => h9) rfl dX7_fault_1 ?_
  exact kl_i (v := ft) hQQ hx hb hr hlocks hS dX7_fault_4 ⟨⟨hP, hD⟩, rfl⟩

set_option maxHeartbeats 40000000 in
set_option maxRecDepth 100000 in
theorem m_X7_bytes (l : Launch) (dC : Nat → ClassId) (dI : Nat → Nat → Nat) (cI cS : ClassId) (sz : Nat) (oP : Nat) (oC : Nat) (nB : Nat) (ft : Int32)  : kMr l yX7_bytes wsX7_bytes ({ frames := 0, cells := 0, slots := 0, locals := 0 } : Room) [.ref oP] sz (dC, dI) vwCl [(cI, .int), (cS, .short)] [(oP, .inr (7, [.ref oC, .ref nB, .int ft]))] (fun _ => True) 0 0 (fun (A : Nat → Prop) (ra : Nat) (hh9 : Heap) => ra = nB ∧ kPD (dC, dI) vwCl A [(oP, .inr (7, [.ref oC, .ref nB, .int ft]))] hh9) := by
  refine kMr_of (cc := cX7_bytes) (maxL := 1) (ret := (some (.object "TextMender$Numbers"))) (lv := [(0, .ref oP)]) (by decide +kernel) rfl rfl (Nat.le_of_ble_eq_true rfl) ?_
  intro p e s m below meth c A QQ ls hx hb hr hts hml hown hlocks hA hQQ hK hX hP hD hS hl
  have hown : s.vm.findClass RX7 = some m.cls := hown
  have hcf := k_cf hx hb hml hown hts
  have in_X7 : ∀ w ∈ wsX70, w ∈ wsX7_bytes := fun _ h => List.mem_cons_of_mem _ (List.mem_append_right _ (h))
  refine lv_aload_n hx hb dX7_bytes_0 rfl (lv_at hl 0 rfl) ?_
  refine va_get (D := (dC, dI)) (ci := 7) (v := .ref nB) (C := RX7) (T := TX7) (N := 3) hx hb hts in_X7 hown hK hP 0 rfl rfl 1 (by decide) (hts (.fieldLink RX7 14 "TextMender$Passage" "bytes" "LTextMender$Numbers;") (List.mem_of_getElem? (i := 1) rfl)) (fun _ h9 => h9) rfl dX7_bytes_1 ?_
  exact kl_r hQQ hx hb hr (Or.inl ⟨_, rfl⟩) hlocks hS dX7_bytes_4 ⟨rfl, ⟨hP, hD⟩⟩

set_option maxHeartbeats 40000000 in
set_option maxRecDepth 100000 in
theorem m_X7_write (l : Launch) (dC : Nat → ClassId) (dI : Nat → Nat → Nat) (cI cS : ClassId) (sz : Nat) (oP : Nat) (nx : Nat) (oC : Nat) (nB : Nat) (aB : Nat) (o4 : Nat) (o5 : Nat) (a41 : Nat) (a42 : Nat) (a43 : Nat) (a51 : Nat) (a52 : Nat) (a53 : Nat) (ax : Nat) (ft : Int32) (lB : Int32) (fB : Nat → Int32) (l4 : Int32) (f42 : Nat → Int32) (f43 : Nat → Int32) (l5 : Int32) (f52 : Nat → Int32) (f53 : Nat → Int32) (lx : Int32) (fx : Nat → Int32) (cd : Int32) (g_lB : 0 ≤ lB.toInt ∧ lB.toInt ≤ 2400) (g_lx : 0 ≤ lx.toInt ∧ lx.toInt ≤ 300) : kMi l yX7_write wsX7_write ({ frames := 3, cells := 0, slots := 0, locals := 71 } : Room) [.ref oP, .int cd, .ref nx] sz (dC, dI) vwCl [(cI, .int), (cS, .short)] [(oP, .inr (7, [.ref oC, .ref nB, .int ft])), (nB, .inr (5, [.ref aB, .int lB])), (aB, .inl (cI, 2400, .inl fB)), (oC, .inr (2, [.ref o4, .ref o5])), (o4, .inr (10, [.ref a41, .ref a42, .ref a43, .int l4])), (a42, .inl (cI, 512, .inl f42)), (a43, .inl (cI, 512, .inl f43)), (o5, .inr (10, [.ref a51, .ref a52, .ref a53, .int l5])), (a52, .inl (cI, 512, .inl f52)), (a53, .inl (cI, 512, .inl f53)), (nx, .inr (5, [.ref ax, .int lx])), (ax, .inl (cI, 300, .inl fx))] (fun _ => True) 0 0 (fun (A : Nat → Prop) (r : Int32) (hh9 : Heap) => ∃ (ft' : Int32) (lB' : Int32) (fB' : Nat → Int32), kPD (dC, dI) vwCl A [(oP, .inr (7, [.ref oC, .ref nB, .int ft'])), (nB, .inr (5, [.ref aB, .int lB'])), (aB, .inl (cI, 2400, .inl fB')), (oC, .inr (2, [.ref o4, .ref o5])), (o4, .inr (10, [.ref a41, .ref a42, .ref a43, .int l4])), (a42, .inl (cI, 512, .inl f42)), (a43, .inl (cI, 512, .inl f43)), (o5, .inr (10, [.ref a51, .ref a52, .ref a53, .int l5])), (a52, .inl (cI, 512, .inl f52)), (a53, .inl (cI, 512, .inl f53)), (nx, .inr (5, [.ref ax, .int lx])), (ax, .inl (cI, 300, .inl fx))] hh9 ∧ (0 ≤ lB'.toInt ∧ lB'.toInt ≤ 2400) ∧ (0 ≤ r.toInt ∧ r.toInt ≤ 1)) := by
  refine kMi_of (cc := cX7_write) (maxL := 4) (ret := (some .boolean)) (lv := [(0, .ref oP), (1, .int cd), (2, .ref nx)]) (by decide +kernel) rfl rfl (Nat.le_of_ble_eq_true rfl) ?_
  intro p e s m below meth c A QQ ls hx hb hr hts hml hown hlocks hA hQQ hK hX hP hD hS hl
  have hown : s.vm.findClass RX7 = some m.cls := hown
  have hcf := k_cf hx hb hml hown hts
  have in_X7 : ∀ w ∈ wsX70, w ∈ wsX7_write := fun _ h => List.mem_cons_of_mem _ (List.mem_append_left _ (List.mem_append_left _ (List.mem_append_left _ (List.mem_append_right _ (h)))))
  refine lv_aload_n hx hb dX7_write_0 rfl (lv_at hl 0 rfl) ?_
  refine lv_iconst (v := (-1)) hx hb dX7_write_1 (by decide) ?_
  refine va_put (D := (dC, dI)) (ci := 7) (v := .int (-1)) (ty := .int) (C := RX7) (T := TX7) (N := 3) hx hb hts in_X7 tyX7 tyX7_ok nmX7 hown hK hP hD hS 0 rfl rfl 2 (by decide) (hts (.fieldLink RX7 24 "TextMender$Passage" "fault" "I") (List.mem_of_getElem? (i := 1) rfl)) (fun _ h9 => h9) rfl (by decide +kernel) rfl rfl (Nat.le_of_ble_eq_true rfl) dX7_write_2 (kW (wn := [(oP, .inr (7, [.ref oC, .ref nB, .int (-1)])), (nB, .inr (5, [.ref aB, .int lB])), (aB, .inl (cI, 2400, .inl fB)), (oC, .inr (2, [.ref o4, .ref o5])), (o4, .inr (10, [.ref a41, .ref a42, .ref a43, .int l4])), (a42, .inl (cI, 512, .inl f42)), (a43, .inl (cI, 512, .inl f43)), (o5, .inr (10, [.ref a51, .ref a52, .ref a53, .int l5])), (a52, .inl (cI, 512, .inl f52)), (a53, .inl (cI, 512, .inl f53)), (nx, .inr (5, [.ref ax, .int lx])), (ax, .inl (cI, 300, .inl fx))]) rfl (fun H locs hPn hDn hSn => ?_))
  clear hP hD hS
  have hP := hPn
  have hD := hDn
  have hS := hSn
  clear hPn hDn hSn
  refine lv_aload_n hx hb dX7_write_5 rfl (lv_at hl 0 rfl) ?_
  refine va_get (D := (dC, dI)) (ci := 7) (v := .ref nB) (C := RX7) (T := TX7) (N := 3) hx hb hts in_X7 hown hK hP 0 rfl rfl 1 (by decide) (hts (.fieldLink RX7 14 "TextMender$Passage" "bytes" "LTextMender$Numbers;") (List.mem_of_getElem? (i := 2) rfl)) (fun _ h9 => h9) rfl dX7_write_6 ?_
  refine lv_iconst (v := 0) hx hb dX7_write_9 (by decide) ?_
  refine kV_v (rest := []) (q0 := 0) (ci := 5) hcf (m_X5_cut l dC dI cI cS H.size nB aB lB 0 (v_rr g_lB (by decide) (by decide))) kc_X5_cut gX7_write_X5_cut rfl rfl rfl ⟨Nat.le_of_ble_eq_true rfl, Nat.le_of_ble_eq_true rfl⟩ kX_t hK hP hD hS hA [1] [0, 2, 3, 4, 5, 6, 7, 8, 9, 10, 11] rfl (by decide +kernel) rfl rfl rfl hl rfl (Nat.le_of_ble_eq_true rfl) dX7_write_10 ⟨Nat.le_of_ble_eq_true rfl, Nat.le_of_ble_eq_true rfl⟩ (fun H locs hB hJ hSn => ?_)
  obtain ⟨lu_1, ⟨hP1, hD1⟩, hf1_0, hf1_1, hf1_2⟩ := hB
  obtain ⟨hPn, hDn⟩ := hJ _ hP1 hD1 [(oP, .inr (7, [.ref oC, .ref nB, .int (-1)])), (aB, .inl (cI, 2400, .inl fB)), (oC, .inr (2, [.ref o4, .ref o5])), (o4, .inr (10, [.ref a41, .ref a42, .ref a43, .int l4])), (a42, .inl (cI, 512, .inl f42)), (a43, .inl (cI, 512, .inl f43)), (o5, .inr (10, [.ref a51, .ref a52, .ref a53, .int l5])), (a52, .inl (cI, 512, .inl f52)), (a53, .inl (cI, 512, .inl f53)), (nx, .inr (5, [.ref ax, .int lx])), (ax, .inl (cI, 300, .inl fx)), (nB, .inr (5, [.ref aB, .int lu_1]))] rfl
  clear hP hD hS hJ hP1 hD1
  have hP := hPn
  have hD := hDn
  have hS := hSn
  clear hPn hDn hSn
  refine lv_iconst (v := 0) hx hb dX7_write_13 (by decide) ?_
  refine lv_istore_n (lv' := [(3, .int 0), (0, .ref oP), (1, .int cd), (2, .ref nx)]) hx hb dX7_write_14 rfl hl (by decide) rfl (fun ls hl => ?_)
  have LOOP_15 : ∀ (k_15 : Nat) (i : Int32) (l2 : Int32) (f2 : Nat → Int32) (H : Heap) (locs : List Loc) (ls : Array Slot), MSd (lx.toInt - i.toInt : Int) k_15 → (0 ≤ i.toInt ∧ i.toInt ≤ 300) → (0 ≤ l2.toInt ∧ l2.toInt ≤ 2400) → va_P (dC, dI) vwCl [(oP, .inr (7, [.ref oC, .ref nB, .int (-1)])), (aB, .inl (cI, 2400, .inl f2)), (oC, .inr (2, [.ref o4, .ref o5])), (o4, .inr (10, [.ref a41, .ref a42, .ref a43, .int l4])), (a42, .inl (cI, 512, .inl f42)), (a43, .inl (cI, 512, .inl f43)), (o5, .inr (10, [.ref a51, .ref a52, .ref a53, .int l5])), (a52, .inl (cI, 512, .inl f52)), (a53, .inl (cI, 512, .inl f53)), (nx, .inr (5, [.ref ax, .int lx])), (ax, .inl (cI, 300, .inl fx)), (nB, .inr (5, [.ref aB, .int l2]))] H → va_D A [(oP, .inr (7, [.ref oC, .ref nB, .int (-1)])), (aB, .inl (cI, 2400, .inl f2)), (oC, .inr (2, [.ref o4, .ref o5])), (o4, .inr (10, [.ref a41, .ref a42, .ref a43, .int l4])), (a42, .inl (cI, 512, .inl f42)), (a43, .inl (cI, 512, .inl f43)), (o5, .inr (10, [.ref a51, .ref a52, .ref a53, .int l5])), (a52, .inl (cI, 512, .inl f52)), (a53, .inl (cI, 512, .inl f53)), (nx, .inr (5, [.ref ax, .int lx])), (ax, .inl (cI, 300, .inl fx)), (nB, .inr (5, [.ref aB, .int l2]))] → va_S A s.heap H locs → lv_has ls 4 [(3, .int i), (0, .ref oP), (1, .int cd), (2, .ref nx)] → W p l e (headSpec wsX7_write ({ frames := 3, cells := 0, slots := 0, locals := 71 } : Room)).room s m ([.ref oP, .int cd, .ref nx] : List Value).toArray below meth c H locs 0 0 (MQ below QQ ([.ref oP, .int cd, .ref nx] : List Value).toArray s 0 0 A) (F0 m 15 ls []) := by
    clear hP hD hS hl
    try (clear hf1_0 hf1_1 hf1_2 g_lB)
    intro k_15
    induction k_15 with
    | zero =>
      intro i l2 f2 H locs ls hm_15 g_i g_l2 hP hD hS hl
      exact ms_0 hm_15
    | succ k_15 ih_15 =>
      intro i l2 f2 H locs ls hm_15 g_i g_l2 hP hD hS hl
      refine lv_iload_n hx hb dX7_write_15 rfl (lv_at hl 0 rfl) ?_
      refine lv_aload_n hx hb dX7_write_16 rfl (lv_at hl 3 rfl) ?_
      refine kV_i (rest := [.int i]) (q0 := 0) (ci := 5) hcf (m_X5_length l dC dI cI cS H.size nx ax lx ) kc_X5_length gX7_write_X5_length rfl rfl rfl ⟨Nat.le_of_ble_eq_true rfl, Nat.le_of_ble_eq_true rfl⟩ kX_t hK hP hD hS hA [9] [0, 1, 2, 3, 4, 5, 6, 7, 8, 10, 11] rfl (by decide +kernel) rfl rfl rfl hl rfl (Nat.le_of_ble_eq_true rfl) dX7_write_17 ⟨Nat.le_of_ble_eq_true rfl, Nat.le_of_ble_eq_true rfl⟩ (fun r_2 H locs hB hJ hSn => ?_)
      obtain ⟨⟨hP1, hD1⟩, hf2_0⟩ := hB
      obtain ⟨hPn, hDn⟩ := hJ _ hP1 hD1 [(oP, .inr (7, [.ref oC, .ref nB, .int (-1)])), (aB, .inl (cI, 2400, .inl f2)), (oC, .inr (2, [.ref o4, .ref o5])), (o4, .inr (10, [.ref a41, .ref a42, .ref a43, .int l4])), (a42, .inl (cI, 512, .inl f42)), (a43, .inl (cI, 512, .inl f43)), (o5, .inr (10, [.ref a51, .ref a52, .ref a53, .int l5])), (a52, .inl (cI, 512, .inl f52)), (a53, .inl (cI, 512, .inl f53)), (ax, .inl (cI, 300, .inl fx)), (nB, .inr (5, [.ref aB, .int l2])), (nx, .inr (5, [.ref ax, .int lx]))] rfl
      clear hP hD hS hJ hP1 hD1
      have hP := hPn
      have hD := hDn
      have hS := hSn
      clear hPn hDn hSn
      rw [hf2_0]
      refine lv_icmp_ge (tgt := 56) hx hb dX7_write_20 (by decide) (fun c_3 => ?_) (fun c_3 => ?_)
      · have tc_3 : lx.toInt ≤ i.toInt := v_le c_3
        refine lv_iconst (v := 1) hx hb dX7_write_56 (by decide) ?_
        exact kl_z (v := 1) hQQ hx hb hr hlocks hS dX7_write_57 (rfl) ⟨(-1), l2, f2, kPD_sub hP hD [0, 10, 1, 2, 3, 4, 5, 6, 7, 8, 11, 9] (by decide +kernel) rfl, g_l2, by decide⟩
      · have tc_3 : i.toInt < lx.toInt := v_nle c_3
        refine lv_aload_n hx hb dX7_write_23 rfl (lv_at hl 1 rfl) ?_
        refine va_get (D := (dC, dI)) (ci := 7) (v := .ref oC) (C := RX7) (T := TX7) (N := 3) hx hb hts in_X7 hown hK hP 0 rfl rfl 0 (by decide) (hts (.fieldLink RX7 20 "TextMender$Passage" "codes" "LTextMender$Codes;") (List.mem_of_getElem? (i := 3) rfl)) (fun _ h9 => h9) rfl dX7_write_24 ?_
        refine lv_iload_n hx hb dX7_write_27 rfl (lv_at hl 2 rfl) ?_
        refine lv_aload_n hx hb dX7_write_28 rfl (lv_at hl 3 rfl) ?_
        refine lv_iload_n hx hb dX7_write_29 rfl (lv_at hl 0 rfl) ?_
        refine kV_i (rest := [.int cd, .ref oC]) (q0 := 0) (ci := 5) hcf (m_X5_get l dC dI cI cS H.size nx ax 300 lx fx i (by omega) (by omega)) kc_X5_get gX7_write_X5_get rfl rfl rfl ⟨Nat.le_of_ble_eq_true rfl, Nat.le_of_ble_eq_true rfl⟩ kX_t hK hP hD hS hA [11, 9] [0, 1, 2, 3, 4, 5, 6, 7, 8, 10] rfl (by decide +kernel) rfl rfl rfl hl rfl (Nat.le_of_ble_eq_true rfl) dX7_write_30 ⟨Nat.le_of_ble_eq_true rfl, Nat.le_of_ble_eq_true rfl⟩ (fun r_4 H locs hB hJ hSn => ?_)
        obtain ⟨⟨hP1, hD1⟩, hf4_0⟩ := hB
        obtain ⟨hPn, hDn⟩ := hJ _ hP1 hD1 [(oP, .inr (7, [.ref oC, .ref nB, .int (-1)])), (aB, .inl (cI, 2400, .inl f2)), (oC, .inr (2, [.ref o4, .ref o5])), (o4, .inr (10, [.ref a41, .ref a42, .ref a43, .int l4])), (a42, .inl (cI, 512, .inl f42)), (a43, .inl (cI, 512, .inl f43)), (o5, .inr (10, [.ref a51, .ref a52, .ref a53, .int l5])), (a52, .inl (cI, 512, .inl f52)), (a53, .inl (cI, 512, .inl f53)), (nB, .inr (5, [.ref aB, .int l2])), (nx, .inr (5, [.ref ax, .int lx])), (ax, .inl (cI, 300, .inl fx))] rfl
        clear hP hD hS hJ hP1 hD1
        have hP := hPn
        have hD := hDn
        have hS := hSn
        clear hPn hDn hSn
        refine lv_aload_n hx hb dX7_write_33 rfl (lv_at hl 1 rfl) ?_
        refine va_get (D := (dC, dI)) (ci := 7) (v := .ref nB) (C := RX7) (T := TX7) (N := 3) hx hb hts in_X7 hown hK hP 0 rfl rfl 1 (by decide) (hts (.fieldLink RX7 14 "TextMender$Passage" "bytes" "LTextMender$Numbers;") (List.mem_of_getElem? (i := 2) rfl)) (fun _ h9 => h9) rfl dX7_write_34 ?_
        refine kV_i (rest := []) (q0 := 0) (ci := 2) hcf (m_X2_encode l dC dI cI cS H.size oC nB o4 o5 a41 a42 a43 a51 a52 a53 aB 2400 l4 f42 f43 l5 f52 f53 l2 f2 cd r_4 (by omega) (by omega)) kc_X2_encode gX7_write_X2_encode rfl rfl rfl ⟨Nat.le_of_ble_eq_true rfl, Nat.le_of_ble_eq_true rfl⟩ kX_t hK hP hD hS hA [2, 3, 4, 5, 6, 7, 8, 9, 1] [0, 10, 11] rfl (by decide +kernel) rfl rfl rfl hl rfl (Nat.le_of_ble_eq_true rfl) dX7_write_37 ⟨Nat.le_of_ble_eq_true rfl, Nat.le_of_ble_eq_true rfl⟩ (fun r_5 H locs hB hJ hSn => ?_)
        obtain ⟨lu_5, fu_5, ⟨hP1, hD1⟩, hf5_0, hf5_1⟩ := hB
        obtain ⟨hPn, hDn⟩ := hJ _ hP1 hD1 [(oP, .inr (7, [.ref oC, .ref nB, .int (-1)])), (nx, .inr (5, [.ref ax, .int lx])), (ax, .inl (cI, 300, .inl fx)), (oC, .inr (2, [.ref o4, .ref o5])), (o4, .inr (10, [.ref a41, .ref a42, .ref a43, .int l4])), (a42, .inl (cI, 512, .inl f42)), (a43, .inl (cI, 512, .inl f43)), (o5, .inr (10, [.ref a51, .ref a52, .ref a53, .int l5])), (a52, .inl (cI, 512, .inl f52)), (a53, .inl (cI, 512, .inl f53)), (nB, .inr (5, [.ref aB, .int lu_5])), (aB, .inl (cI, 2400, .inl fu_5))] rfl
        clear hP hD hS hJ hP1 hD1
        have hP := hPn
        have hD := hDn
        have hS := hSn
        clear hPn hDn hSn
        refine lv_if_ne (tgt := 50) hx hb dX7_write_40 (by decide) (fun c_6 => ?_) (fun c_6 => ?_)
        · have tc_6 : ¬ r_5.toInt = 0 := v_ne c_6
          obtain ⟨x_7, ex_7⟩ : ∃ y : Int32, y = i + 1 := ⟨_, rfl⟩
          have tx_7 : x_7.toInt = i.toInt + 1 := v_addR (l2 := 1) (h2 := 1) ex_7 g_i (by decide) (by decide) (by decide)
          refine lv_iinc (v := x_7) (lv' := [(3, .int x_7), (0, .ref oP), (1, .int cd), (2, .ref nx)]) hx hb dX7_write_50 hl (k := 0) rfl (by rw [ex_7]; rfl) (by decide) rfl (fun ls hl => ?_)
          refine lv_goto (tgt := 15) hx hb dX7_write_53 (by decide) ?_
          exact ih_15 x_7 lu_5 fu_5 _ _ _ (ms_lt hm_15 (by show ((lx.toInt - x_7.toInt : Int)) < lx.toInt - i.toInt; omega) (by show (0 : Int) < lx.toInt - i.toInt; omega)) (by show 0 ≤ x_7.toInt ∧ x_7.toInt ≤ 300; omega) (by show 0 ≤ lu_5.toInt ∧ lu_5.toInt ≤ 2400; omega) (hP.sub [0, 11, 3, 4, 5, 6, 7, 8, 9, 1, 2, 10] rfl) (hD.sub [0, 11, 3, 4, 5, 6, 7, 8, 9, 1, 2, 10] (by decide +kernel) rfl) hS (lv_sub hl [0, 1, 2, 3] rfl)
        · have tc_6 : r_5.toInt = 0 := v_eq c_6
          refine lv_aload_n hx hb dX7_write_43 rfl (lv_at hl 1 rfl) ?_
          refine lv_iload_n hx hb dX7_write_44 rfl (lv_at hl 0 rfl) ?_
          refine va_put (D := (dC, dI)) (ci := 7) (v := .int i) (ty := .int) (C := RX7) (T := TX7) (N := 3) hx hb hts in_X7 tyX7 tyX7_ok nmX7 hown hK hP hD hS 0 rfl rfl 2 (by decide) (hts (.fieldLink RX7 24 "TextMender$Passage" "fault" "I") (List.mem_of_getElem? (i := 1) rfl)) (fun _ h9 => h9) rfl (by decide +kernel) rfl rfl (Nat.le_of_ble_eq_true rfl) dX7_write_45 (kW (wn := [(oP, .inr (7, [.ref oC, .ref nB, .int i])), (nx, .inr (5, [.ref ax, .int lx])), (ax, .inl (cI, 300, .inl fx)), (oC, .inr (2, [.ref o4, .ref o5])), (o4, .inr (10, [.ref a41, .ref a42, .ref a43, .int l4])), (a42, .inl (cI, 512, .inl f42)), (a43, .inl (cI, 512, .inl f43)), (o5, .inr (10, [.ref a51, .ref a52, .ref a53, .int l5])), (a52, .inl (cI, 512, .inl f52)), (a53, .inl (cI, 512, .inl f53)), (nB, .inr (5, [.ref aB, .int lu_5])), (aB, .inl (cI, 2400, .inl fu_5))]) rfl (fun H locs hPn hDn hSn => ?_))
          clear hP hD hS
          have hP := hPn
          have hD := hDn
          have hS := hSn
          clear hPn hDn hSn
          refine lv_iconst (v := 0) hx hb dX7_write_48 (by decide) ?_
          exact kl_z (v := 0) hQQ hx hb hr hlocks hS dX7_write_49 (rfl) ⟨i, lu_5, fu_5, kPD_sub hP hD [0, 10, 11, 3, 4, 5, 6, 7, 8, 9, 1, 2] (by decide +kernel) rfl, by omega, by decide⟩
  exact LOOP_15 _ 0 lu_1 fB _ _ _ (ms_s _) (by decide) (by show 0 ≤ lu_1.toInt ∧ lu_1.toInt ≤ 2400; omega) hP hD hS (lv_sub hl [0, 1, 2, 3] rfl)

set_option maxHeartbeats 40000000 in
set_option maxRecDepth 100000 in
theorem m_X7_readExactly (l : Launch) (dC : Nat → ClassId) (dI : Nat → Nat → Nat) (cI cS : ClassId) (sz : Nat) (oP : Nat) (nz : Nat) (nd : Nat) (oC : Nat) (nB : Nat) (az : Nat) (ad : Nat) (o4 : Nat) (o5 : Nat) (a41 : Nat) (a42 : Nat) (a43 : Nat) (a51 : Nat) (a52 : Nat) (a53 : Nat) (cz : Nat) (ft : Int32) (lz : Int32) (fz : Nat → Int32) (ld : Int32) (fd : Nat → Int32) (l4 : Int32) (f41 : Nat → Int32) (l5 : Int32) (f51 : Nat → Int32) (cd : Int32) (g_lz : 0 ≤ lz.toInt ∧ lz.toInt ≤ (cz : Int)) (g_ld : 0 ≤ ld.toInt ∧ ld.toInt ≤ 300) (hcz : cz ≤ 2400) : kMi l yX7_readExactly wsX7_readExactly ({ frames := 3, cells := 0, slots := 0, locals := 74 } : Room) [.ref oP, .int cd, .ref nz, .ref nd] sz (dC, dI) vwCl [(cI, .int), (cS, .short)] [(oP, .inr (7, [.ref oC, .ref nB, .int ft])), (nz, .inr (5, [.ref az, .int lz])), (az, .inl (cI, cz, .inl fz)), (nd, .inr (5, [.ref ad, .int ld])), (ad, .inl (cI, 300, .inl fd)), (oC, .inr (2, [.ref o4, .ref o5])), (o4, .inr (10, [.ref a41, .ref a42, .ref a43, .int l4])), (a41, .inl (cI, 256, .inl f41)), (o5, .inr (10, [.ref a51, .ref a52, .ref a53, .int l5])), (a51, .inl (cI, 256, .inl f51))] (va_Nw (.methodLinkNest RX2 52 yX11_isLetter "TextMender")) 0 0 (fun (A : Nat → Prop) (r : Int32) (hh9 : Heap) => ∃ (ft' : Int32) (ld' : Int32) (fd' : Nat → Int32), kPD (dC, dI) vwCl A [(oP, .inr (7, [.ref oC, .ref nB, .int ft'])), (nz, .inr (5, [.ref az, .int lz])), (az, .inl (cI, cz, .inl fz)), (nd, .inr (5, [.ref ad, .int ld'])), (ad, .inl (cI, 300, .inl fd')), (oC, .inr (2, [.ref o4, .ref o5])), (o4, .inr (10, [.ref a41, .ref a42, .ref a43, .int l4])), (a41, .inl (cI, 256, .inl f41)), (o5, .inr (10, [.ref a51, .ref a52, .ref a53, .int l5])), (a51, .inl (cI, 256, .inl f51))] hh9 ∧ (0 ≤ ld'.toInt ∧ ld'.toInt ≤ 300) ∧ (0 ≤ r.toInt ∧ r.toInt ≤ 1)) := by
  refine kMi_of (cc := cX7_readExactly) (maxL := 7) (ret := (some .boolean)) (lv := [(0, .ref oP), (1, .int cd), (2, .ref nz), (3, .ref nd)]) (by decide +kernel) rfl rfl (Nat.le_of_ble_eq_true rfl) ?_
  intro p e s m below meth c A QQ ls hx hb hr hts hml hown hlocks hA hQQ hK hX hP hD hS hl
  have hown : s.vm.findClass RX7 = some m.cls := hown
  have hcf := k_cf hx hb hml hown hts
  have hN52 := hX
  have in_X7 : ∀ w ∈ wsX70, w ∈ wsX7_readExactly := fun _ h => List.mem_cons_of_mem _ (List.mem_append_left _ (List.mem_append_left _ (List.mem_append_left _ (List.mem_append_right _ (h)))))
  refine lv_aload_n hx hb dX7_readExactly_0 rfl (lv_at hl 0 rfl) ?_
  refine lv_iconst (v := (-1)) hx hb dX7_readExactly_1 (by decide) ?_
  refine va_put (D := (dC, dI)) (ci := 7) (v := .int (-1)) (ty := .int) (C := RX7) (T := TX7) (N := 3) hx hb hts in_X7 tyX7 tyX7_ok nmX7 hown hK hP hD hS 0 rfl rfl 2 (by decide) (hts (.fieldLink RX7 24 "TextMender$Passage" "fault" "I") (List.mem_of_getElem? (i := 1) rfl)) (fun _ h9 => h9) rfl (by decide +kernel) rfl rfl (Nat.le_of_ble_eq_true rfl) dX7_readExactly_2 (kW (wn := [(oP, .inr (7, [.ref oC, .ref nB, .int (-1)])), (nz, .inr (5, [.ref az, .int lz])), (az, .inl (cI, cz, .inl fz)), (nd, .inr (5, [.ref ad, .int ld])), (ad, .inl (cI, 300, .inl fd)), (oC, .inr (2, [.ref o4, .ref o5])), (o4, .inr (10, [.ref a41, .ref a42, .ref a43, .int l4])), (a41, .inl (cI, 256, .inl f41)), (o5, .inr (10, [.ref a51, .ref a52, .ref a53, .int l5])), (a51, .inl (cI, 256, .inl f51))]) rfl (fun H locs hPn hDn hSn => ?_))
  clear hP hD hS
  have hP := hPn
  have hD := hDn
  have hS := hSn
  clear hPn hDn hSn
  refine lv_aload_n hx hb dX7_readExactly_5 rfl (lv_at hl 3 rfl) ?_
  refine lv_iconst (v := 0) hx hb dX7_readExactly_6 (by decide) ?_
  refine kV_v (rest := []) (q0 := 0) (ci := 5) hcf (m_X5_cut l dC dI cI cS H.size nd ad ld 0 (v_rr g_ld (by decide) (by decide))) kc_X5_cut gX7_readExactly_X5_cut rfl rfl rfl ⟨Nat.le_of_ble_eq_true rfl, Nat.le_of_ble_eq_true rfl⟩ kX_t hK hP hD hS hA [3] [0, 1, 2, 4, 5, 6, 7, 8, 9] rfl (by decide +kernel) rfl rfl rfl hl rfl (Nat.le_of_ble_eq_true rfl) dX7_readExactly_7 ⟨Nat.le_of_ble_eq_true rfl, Nat.le_of_ble_eq_true rfl⟩ (fun H locs hB hJ hSn => ?_)
  obtain ⟨lu_1, ⟨hP1, hD1⟩, hf1_0, hf1_1, hf1_2⟩ := hB
  obtain ⟨hPn, hDn⟩ := hJ _ hP1 hD1 [(oP, .inr (7, [.ref oC, .ref nB, .int (-1)])), (nz, .inr (5, [.ref az, .int lz])), (az, .inl (cI, cz, .inl fz)), (ad, .inl (cI, 300, .inl fd)), (oC, .inr (2, [.ref o4, .ref o5])), (o4, .inr (10, [.ref a41, .ref a42, .ref a43, .int l4])), (a41, .inl (cI, 256, .inl f41)), (o5, .inr (10, [.ref a51, .ref a52, .ref a53, .int l5])), (a51, .inl (cI, 256, .inl f51)), (nd, .inr (5, [.ref ad, .int lu_1]))] rfl
  clear hP hD hS hJ hP1 hD1
  have hP := hPn
  have hD := hDn
  have hS := hSn
  clear hPn hDn hSn
  refine lv_iconst (v := 1) hx hb dX7_readExactly_10 (by decide) ?_
  refine lv_istore (lv' := [(4, .int 1), (0, .ref oP), (1, .int cd), (2, .ref nz), (3, .ref nd)]) hx hb dX7_readExactly_11 hl (by decide) rfl (fun ls hl => ?_)
  refine lv_iconst (v := 0) hx hb dX7_readExactly_13 (by decide) ?_
  refine lv_istore (lv' := [(5, .int 0), (4, .int 1), (0, .ref oP), (1, .int cd), (2, .ref nz), (3, .ref nd)]) hx hb dX7_readExactly_14 hl (by decide) rfl (fun ls hl => ?_)
  have LOOP_16 : ∀ (k_16 : Nat) (fi : Int32) (p_ : Int32) (l2 : Int32) (f2 : Nat → Int32) (H : Heap) (locs : List Loc) (ls : Array Slot), MSd (lz.toInt - p_.toInt : Int) k_16 → (0 ≤ fi.toInt ∧ fi.toInt ≤ 1) → (0 ≤ p_.toInt ∧ p_.toInt ≤ lz.toInt + 15) → (0 ≤ l2.toInt ∧ l2.toInt ≤ 300) → va_P (dC, dI) vwCl [(oP, .inr (7, [.ref oC, .ref nB, .int (-1)])), (nz, .inr (5, [.ref az, .int lz])), (az, .inl (cI, cz, .inl fz)), (ad, .inl (cI, 300, .inl f2)), (oC, .inr (2, [.ref o4, .ref o5])), (o4, .inr (10, [.ref a41, .ref a42, .ref a43, .int l4])), (a41, .inl (cI, 256, .inl f41)), (o5, .inr (10, [.ref a51, .ref a52, .ref a53, .int l5])), (a51, .inl (cI, 256, .inl f51)), (nd, .inr (5, [.ref ad, .int l2]))] H → va_D A [(oP, .inr (7, [.ref oC, .ref nB, .int (-1)])), (nz, .inr (5, [.ref az, .int lz])), (az, .inl (cI, cz, .inl fz)), (ad, .inl (cI, 300, .inl f2)), (oC, .inr (2, [.ref o4, .ref o5])), (o4, .inr (10, [.ref a41, .ref a42, .ref a43, .int l4])), (a41, .inl (cI, 256, .inl f41)), (o5, .inr (10, [.ref a51, .ref a52, .ref a53, .int l5])), (a51, .inl (cI, 256, .inl f51)), (nd, .inr (5, [.ref ad, .int l2]))] → va_S A s.heap H locs → lv_has ls 7 [(5, .int p_), (4, .int fi), (0, .ref oP), (1, .int cd), (2, .ref nz), (3, .ref nd)] → W p l e (headSpec wsX7_readExactly ({ frames := 3, cells := 0, slots := 0, locals := 74 } : Room)).room s m ([.ref oP, .int cd, .ref nz, .ref nd] : List Value).toArray below meth c H locs 0 0 (MQ below QQ ([.ref oP, .int cd, .ref nz, .ref nd] : List Value).toArray s 0 0 A) (F0 m 16 ls []) := by
    clear hP hD hS hl
    try (clear hf1_0 hf1_1 hf1_2 g_ld)
    intro k_16
    induction k_16 with
    | zero =>
      intro fi p_ l2 f2 H locs ls hm_16 g_fi g_p_ g_l2 hP hD hS hl
      exact ms_0 hm_16
    | succ k_16 ih_16 =>
      intro fi p_ l2 f2 H locs ls hm_16 g_fi g_p_ g_l2 hP hD hS hl
      refine lv_iload hx hb dX7_readExactly_16 (lv_at hl 0 rfl) ?_
      refine lv_aload_n hx hb dX7_readExactly_18 rfl (lv_at hl 4 rfl) ?_
      refine kV_i (rest := [.int p_]) (q0 := 0) (ci := 5) hcf (m_X5_length l dC dI cI cS H.size nz az lz ) kc_X5_length gX7_readExactly_X5_length rfl rfl rfl ⟨Nat.le_of_ble_eq_true rfl, Nat.le_of_ble_eq_true rfl⟩ kX_t hK hP hD hS hA [1] [0, 2, 3, 4, 5, 6, 7, 8, 9] rfl (by decide +kernel) rfl rfl rfl hl rfl (Nat.le_of_ble_eq_true rfl) dX7_readExactly_19 ⟨Nat.le_of_ble_eq_true rfl, Nat.le_of_ble_eq_true rfl⟩ (fun r_2 H locs hB hJ hSn => ?_)
      obtain ⟨⟨hP1, hD1⟩, hf2_0⟩ := hB
      obtain ⟨hPn, hDn⟩ := hJ _ hP1 hD1 [(oP, .inr (7, [.ref oC, .ref nB, .int (-1)])), (az, .inl (cI, cz, .inl fz)), (ad, .inl (cI, 300, .inl f2)), (oC, .inr (2, [.ref o4, .ref o5])), (o4, .inr (10, [.ref a41, .ref a42, .ref a43, .int l4])), (a41, .inl (cI, 256, .inl f41)), (o5, .inr (10, [.ref a51, .ref a52, .ref a53, .int l5])), (a51, .inl (cI, 256, .inl f51)), (nd, .inr (5, [.ref ad, .int l2])), (nz, .inr (5, [.ref az, .int lz]))] rfl
      clear hP hD hS hJ hP1 hD1
      have hP := hPn
      have hD := hDn
      have hS := hSn
      clear hPn hDn hSn
      rw [hf2_0]
      refine lv_icmp_ge (tgt := 97) hx hb dX7_readExactly_22 (by decide) (fun c_3 => ?_) (fun c_3 => ?_)
      · have tc_3 : lz.toInt ≤ p_.toInt := v_le c_3
        have rw3_0 := v_rng p_
        refine lv_iload hx hb dX7_readExactly_97 (lv_at hl 1 rfl) ?_
        exact kl_z (v := fi) hQQ hx hb hr hlocks hS dX7_readExactly_99 (v_bool (by omega)) ⟨(-1), l2, f2, kPD_sub hP hD [0, 9, 1, 8, 2, 3, 4, 5, 6, 7] (by decide +kernel) rfl, g_l2, g_fi⟩
      · have tc_3 : p_.toInt < lz.toInt := v_nle c_3
        have rw3_0 := v_rng p_
        refine lv_aload_n hx hb dX7_readExactly_25 rfl (lv_at hl 2 rfl) ?_
        refine va_get (D := (dC, dI)) (ci := 7) (v := .ref oC) (C := RX7) (T := TX7) (N := 3) hx hb hts in_X7 hown hK hP 0 rfl rfl 0 (by decide) (hts (.fieldLink RX7 20 "TextMender$Passage" "codes" "LTextMender$Codes;") (List.mem_of_getElem? (i := 2) rfl)) (fun _ h9 => h9) rfl dX7_readExactly_26 ?_
        refine lv_iload_n hx hb dX7_readExactly_29 rfl (lv_at hl 3 rfl) ?_
        refine lv_aload_n hx hb dX7_readExactly_30 rfl (lv_at hl 4 rfl) ?_
        refine lv_iload hx hb dX7_readExactly_31 (lv_at hl 0 rfl) ?_
        refine lv_aload_n hx hb dX7_readExactly_33 rfl (lv_at hl 4 rfl) ?_
        refine kV_i (rest := [.int p_, .ref nz, .int cd, .ref oC]) (q0 := 0) (ci := 5) hcf (m_X5_length l dC dI cI cS H.size nz az lz ) kc_X5_length gX7_readExactly_X5_length rfl rfl rfl ⟨Nat.le_of_ble_eq_true rfl, Nat.le_of_ble_eq_true rfl⟩ kX_t hK hP hD hS hA [9] [0, 1, 2, 3, 4, 5, 6, 7, 8] rfl (by decide +kernel) rfl rfl rfl hl rfl (Nat.le_of_ble_eq_true rfl) dX7_readExactly_34 ⟨Nat.le_of_ble_eq_true rfl, Nat.le_of_ble_eq_true rfl⟩ (fun r_4 H locs hB hJ hSn => ?_)
        obtain ⟨⟨hP1, hD1⟩, hf4_0⟩ := hB
        obtain ⟨hPn, hDn⟩ := hJ _ hP1 hD1 [(oP, .inr (7, [.ref oC, .ref nB, .int (-1)])), (az, .inl (cI, cz, .inl fz)), (ad, .inl (cI, 300, .inl f2)), (oC, .inr (2, [.ref o4, .ref o5])), (o4, .inr (10, [.ref a41, .ref a42, .ref a43, .int l4])), (a41, .inl (cI, 256, .inl f41)), (o5, .inr (10, [.ref a51, .ref a52, .ref a53, .int l5])), (a51, .inl (cI, 256, .inl f51)), (nd, .inr (5, [.ref ad, .int l2])), (nz, .inr (5, [.ref az, .int lz]))] rfl
        clear hP hD hS hJ hP1 hD1
        have hP := hPn
        have hD := hDn
        have hS := hSn
        clear hPn hDn hSn
        rw [hf4_0]
        refine kV_i (rest := []) (q0 := 0) (ci := 2) hcf (m_X2_decode l dC dI cI cS H.size oC nz o4 o5 a41 a42 a43 a51 a52 a53 az cz l4 f41 l5 f51 lz fz cd p_ lz (g_lz) (by omega)) kc_X2_decode gX7_readExactly_X2_decode rfl rfl rfl ⟨Nat.le_of_ble_eq_true rfl, Nat.le_of_ble_eq_true rfl⟩ (kX_1 hN52) hK hP hD hS hA [3, 4, 5, 6, 7, 9, 1] [0, 2, 8] rfl (by decide +kernel) rfl rfl rfl hl rfl (Nat.le_of_ble_eq_true rfl) dX7_readExactly_37 ⟨Nat.le_of_ble_eq_true rfl, Nat.le_of_ble_eq_true rfl⟩ (fun r_5 H locs hB hJ hSn => ?_)
        obtain ⟨hP1, hD1⟩ := hB
        obtain ⟨hPn, hDn⟩ := hJ _ hP1 hD1 [(oP, .inr (7, [.ref oC, .ref nB, .int (-1)])), (ad, .inl (cI, 300, .inl f2)), (nd, .inr (5, [.ref ad, .int l2])), (oC, .inr (2, [.ref o4, .ref o5])), (o4, .inr (10, [.ref a41, .ref a42, .ref a43, .int l4])), (a41, .inl (cI, 256, .inl f41)), (o5, .inr (10, [.ref a51, .ref a52, .ref a53, .int l5])), (a51, .inl (cI, 256, .inl f51)), (nz, .inr (5, [.ref az, .int lz])), (az, .inl (cI, cz, .inl fz))] rfl
        clear hP hD hS hJ hP1 hD1
        have hP := hPn
        have hD := hDn
        have hS := hSn
        clear hPn hDn hSn
        refine lv_istore (lv' := [(6, .int r_5), (5, .int p_), (4, .int fi), (0, .ref oP), (1, .int cd), (2, .ref nz), (3, .ref nd)]) hx hb dX7_readExactly_40 hl (by decide) rfl (fun ls hl => ?_)
        refine lv_iload hx hb dX7_readExactly_42 (lv_at hl 0 rfl) ?_
        refine lv_iconst (v := (-1)) hx hb dX7_readExactly_44 (by decide) ?_
        refine lv_icmp_ne (tgt := 56) hx hb dX7_readExactly_45 (by decide) (fun c_6 => ?_) (fun c_6 => ?_)
        · have tc_6 : ¬ r_5.toInt = (-1) := v_ne c_6
          refine lv_aload_n hx hb dX7_readExactly_56 rfl (lv_at hl 6 rfl) ?_
          refine lv_iload hx hb dX7_readExactly_57 (lv_at hl 0 rfl) ?_
          refine kS_i (rest := [.ref nd]) hcf (m_X2_letterIn l dC dI cI cS H.size r_5 ) kc_X2_letterIn gX7_readExactly_X2_letterIn rfl rfl ⟨Nat.le_of_ble_eq_true rfl, Nat.le_of_ble_eq_true rfl⟩ kX_t hK hP hD hS hA [] [0, 1, 2, 3, 4, 5, 6, 7, 8, 9] rfl (by decide +kernel) rfl hl rfl (Nat.le_of_ble_eq_true rfl) dX7_readExactly_59 ⟨Nat.le_of_ble_eq_true rfl, Nat.le_of_ble_eq_true rfl⟩ (fun r_7 H locs hB hJ hSn => ?_)
          obtain ⟨hP1, hD1⟩ := hB
          obtain ⟨hPn, hDn⟩ := hJ _ hP1 hD1 [(oP, .inr (7, [.ref oC, .ref nB, .int (-1)])), (ad, .inl (cI, 300, .inl f2)), (nd, .inr (5, [.ref ad, .int l2])), (oC, .inr (2, [.ref o4, .ref o5])), (o4, .inr (10, [.ref a41, .ref a42, .ref a43, .int l4])), (a41, .inl (cI, 256, .inl f41)), (o5, .inr (10, [.ref a51, .ref a52, .ref a53, .int l5])), (a51, .inl (cI, 256, .inl f51)), (nz, .inr (5, [.ref az, .int lz])), (az, .inl (cI, cz, .inl fz))] rfl
          clear hP hD hS hJ hP1 hD1
          have hP := hPn
          have hD := hDn
          have hS := hSn
          clear hPn hDn hSn
          refine kV_i (rest := []) (q0 := 0) (ci := 5) hcf (m_X5_add l dC dI cI cS H.size nd ad 300 l2 f2 r_7 (by omega) (by omega)) kc_X5_add gX7_readExactly_X5_add rfl rfl rfl ⟨Nat.le_of_ble_eq_true rfl, Nat.le_of_ble_eq_true rfl⟩ kX_t hK hP hD hS hA [2, 1] [0, 3, 4, 5, 6, 7, 8, 9] rfl (by decide +kernel) rfl rfl rfl hl rfl (Nat.le_of_ble_eq_true rfl) dX7_readExactly_62 ⟨Nat.le_of_ble_eq_true rfl, Nat.le_of_ble_eq_true rfl⟩ (fun r_8 H locs hB hJ hSn => ?_)
          obtain ⟨lu_8, fu_8, ⟨hP1, hD1⟩, hf8_0, hf8_1, hf8_2⟩ := hB
          obtain ⟨hPn, hDn⟩ := hJ _ hP1 hD1 [(oP, .inr (7, [.ref oC, .ref nB, .int (-1)])), (oC, .inr (2, [.ref o4, .ref o5])), (o4, .inr (10, [.ref a41, .ref a42, .ref a43, .int l4])), (a41, .inl (cI, 256, .inl f41)), (o5, .inr (10, [.ref a51, .ref a52, .ref a53, .int l5])), (a51, .inl (cI, 256, .inl f51)), (nz, .inr (5, [.ref az, .int lz])), (az, .inl (cI, cz, .inl fz)), (nd, .inr (5, [.ref ad, .int lu_8])), (ad, .inl (cI, 300, .inl fu_8))] rfl
          clear hP hD hS hJ hP1 hD1
          have hP := hPn
          have hD := hDn
          have hS := hSn
          clear hPn hDn hSn
          refine lv_if_eq (tgt := 77) hx hb dX7_readExactly_65 (by decide) (fun c_9 => ?_) (fun c_9 => ?_)
          · have tc_9 : r_8.toInt = 0 := v_eq c_9
            refine lv_iconst (v := 0) hx hb dX7_readExactly_77 (by decide) ?_
            refine lv_istore (lv' := [(4, .int 0), (6, .int r_5), (5, .int p_), (0, .ref oP), (1, .int cd), (2, .ref nz), (3, .ref nd)]) hx hb dX7_readExactly_78 hl (by decide) rfl (fun ls hl => ?_)
            refine lv_iload hx hb dX7_readExactly_80 (lv_at hl 2 rfl) ?_
            refine lv_iconst (v := 1) hx hb dX7_readExactly_82 (by decide) ?_
            refine lv_iload hx hb dX7_readExactly_83 (lv_at hl 1 rfl) ?_
            refine kS_i (rest := [.int 1, .int p_]) hcf (m_X2_bytesIn l dC dI cI cS H.size r_5 ) kc_X2_bytesIn gX7_readExactly_X2_bytesIn rfl rfl ⟨Nat.le_of_ble_eq_true rfl, Nat.le_of_ble_eq_true rfl⟩ kX_t hK hP hD hS hA [] [0, 1, 2, 3, 4, 5, 6, 7, 8, 9] rfl (by decide +kernel) rfl hl rfl (Nat.le_of_ble_eq_true rfl) dX7_readExactly_85 ⟨Nat.le_of_ble_eq_true rfl, Nat.le_of_ble_eq_true rfl⟩ (fun r_10 H locs hB hJ hSn => ?_)
            obtain ⟨⟨hP1, hD1⟩, hf10_0⟩ := hB
            obtain ⟨hPn, hDn⟩ := hJ _ hP1 hD1 [(oP, .inr (7, [.ref oC, .ref nB, .int (-1)])), (oC, .inr (2, [.ref o4, .ref o5])), (o4, .inr (10, [.ref a41, .ref a42, .ref a43, .int l4])), (a41, .inl (cI, 256, .inl f41)), (o5, .inr (10, [.ref a51, .ref a52, .ref a53, .int l5])), (a51, .inl (cI, 256, .inl f51)), (nz, .inr (5, [.ref az, .int lz])), (az, .inl (cI, cz, .inl fz)), (nd, .inr (5, [.ref ad, .int lu_8])), (ad, .inl (cI, 300, .inl fu_8))] rfl
            clear hP hD hS hJ hP1 hD1
            have hP := hPn
            have hD := hDn
            have hS := hSn
            clear hPn hDn hSn
            refine va_mmax hx hb (by rw [hml]; exact hl.1.symm) hown (hts (.methodLink RX7 59 Lib.Math.max.name) (List.mem_of_getElem? (i := 3) rfl)) (hts (.static Lib.Math.max.name) (List.mem_of_getElem? (i := 4) rfl)) (hts (.initialized "java/lang/Math") (List.mem_of_getElem? (i := 5) rfl)) (hts (.code Lib.Math.max.name Lib.Math.max.code 2 (some .int)) (List.mem_of_getElem? (i := 6) rfl)) (Nat.le_of_ble_eq_true rfl) (Nat.le_of_ble_eq_true rfl) (Nat.zero_le _) (Nat.zero_le _) dX7_readExactly_88 ?_
            refine lv_topi (fun x_11 ex_11 => ?_)
            have tx_11 : 1 ≤ x_11.toInt ∧ r_10.toInt ≤ x_11.toInt ∧ (x_11.toInt = 1 ∨ x_11.toInt = r_10.toInt) := v_max ex_11
            refine lv_iadd hx hb dX7_readExactly_91 ?_
            refine lv_topi (fun x_12 ex_12 => ?_)
            have tx_12 : x_12.toInt = p_.toInt + x_11.toInt := v_add ex_12 (by show -2147483648 ≤ p_.toInt + x_11.toInt; omega) (by show p_.toInt + x_11.toInt < 2147483648; omega)
            refine lv_istore (lv' := [(5, .int x_12), (4, .int 0), (6, .int r_5), (0, .ref oP), (1, .int cd), (2, .ref nz), (3, .ref nd)]) hx hb dX7_readExactly_92 hl (by decide) rfl (fun ls hl => ?_)
            refine lv_goto (tgt := 16) hx hb dX7_readExactly_94 (by decide) ?_
            exact ih_16 0 x_12 lu_8 fu_8 _ _ _ (ms_lt hm_16 (by show ((lz.toInt - x_12.toInt : Int)) < lz.toInt - p_.toInt; omega) (by show (0 : Int) < lz.toInt - p_.toInt; omega)) (by decide) (by show 0 ≤ x_12.toInt ∧ x_12.toInt ≤ lz.toInt + 15; omega) (by show 0 ≤ lu_8.toInt ∧ lu_8.toInt ≤ 300; omega) (hP.sub [0, 6, 7, 9, 1, 2, 3, 4, 5, 8] rfl) (hD.sub [0, 6, 7, 9, 1, 2, 3, 4, 5, 8] (by decide +kernel) rfl) hS (lv_sub hl [0, 1, 3, 4, 5, 6] rfl)
          · have tc_9 : ¬ r_8.toInt = 0 := v_ne c_9
            refine lv_iload hx hb dX7_readExactly_68 (lv_at hl 2 rfl) ?_
            refine lv_if_eq (tgt := 77) hx hb dX7_readExactly_70 (by decide) (fun c_13 => ?_) (fun c_13 => ?_)
            · have tc_13 : fi.toInt = 0 := v_eq c_13
              refine lv_iconst (v := 0) hx hb dX7_readExactly_77 (by decide) ?_
              refine lv_istore (lv' := [(4, .int 0), (6, .int r_5), (5, .int p_), (0, .ref oP), (1, .int cd), (2, .ref nz), (3, .ref nd)]) hx hb dX7_readExactly_78 hl (by decide) rfl (fun ls hl => ?_)
              refine lv_iload hx hb dX7_readExactly_80 (lv_at hl 2 rfl) ?_
              refine lv_iconst (v := 1) hx hb dX7_readExactly_82 (by decide) ?_
              refine lv_iload hx hb dX7_readExactly_83 (lv_at hl 1 rfl) ?_
              refine kS_i (rest := [.int 1, .int p_]) hcf (m_X2_bytesIn l dC dI cI cS H.size r_5 ) kc_X2_bytesIn gX7_readExactly_X2_bytesIn rfl rfl ⟨Nat.le_of_ble_eq_true rfl, Nat.le_of_ble_eq_true rfl⟩ kX_t hK hP hD hS hA [] [0, 1, 2, 3, 4, 5, 6, 7, 8, 9] rfl (by decide +kernel) rfl hl rfl (Nat.le_of_ble_eq_true rfl) dX7_readExactly_85 ⟨Nat.le_of_ble_eq_true rfl, Nat.le_of_ble_eq_true rfl⟩ (fun r_14 H locs hB hJ hSn => ?_)
              obtain ⟨⟨hP1, hD1⟩, hf14_0⟩ := hB
              obtain ⟨hPn, hDn⟩ := hJ _ hP1 hD1 [(oP, .inr (7, [.ref oC, .ref nB, .int (-1)])), (oC, .inr (2, [.ref o4, .ref o5])), (o4, .inr (10, [.ref a41, .ref a42, .ref a43, .int l4])), (a41, .inl (cI, 256, .inl f41)), (o5, .inr (10, [.ref a51, .ref a52, .ref a53, .int l5])), (a51, .inl (cI, 256, .inl f51)), (nz, .inr (5, [.ref az, .int lz])), (az, .inl (cI, cz, .inl fz)), (nd, .inr (5, [.ref ad, .int lu_8])), (ad, .inl (cI, 300, .inl fu_8))] rfl
              clear hP hD hS hJ hP1 hD1
              have hP := hPn
              have hD := hDn
              have hS := hSn
              clear hPn hDn hSn
              refine va_mmax hx hb (by rw [hml]; exact hl.1.symm) hown (hts (.methodLink RX7 59 Lib.Math.max.name) (List.mem_of_getElem? (i := 3) rfl)) (hts (.static Lib.Math.max.name) (List.mem_of_getElem? (i := 4) rfl)) (hts (.initialized "java/lang/Math") (List.mem_of_getElem? (i := 5) rfl)) (hts (.code Lib.Math.max.name Lib.Math.max.code 2 (some .int)) (List.mem_of_getElem? (i := 6) rfl)) (Nat.le_of_ble_eq_true rfl) (Nat.le_of_ble_eq_true rfl) (Nat.zero_le _) (Nat.zero_le _) dX7_readExactly_88 ?_
              refine lv_topi (fun x_15 ex_15 => ?_)
              have tx_15 : 1 ≤ x_15.toInt ∧ r_14.toInt ≤ x_15.toInt ∧ (x_15.toInt = 1 ∨ x_15.toInt = r_14.toInt) := v_max ex_15
              refine lv_iadd hx hb dX7_readExactly_91 ?_
              refine lv_topi (fun x_16 ex_16 => ?_)
              have tx_16 : x_16.toInt = p_.toInt + x_15.toInt := v_add ex_16 (by show -2147483648 ≤ p_.toInt + x_15.toInt; omega) (by show p_.toInt + x_15.toInt < 2147483648; omega)
              refine lv_istore (lv' := [(5, .int x_16), (4, .int 0), (6, .int r_5), (0, .ref oP), (1, .int cd), (2, .ref nz), (3, .ref nd)]) hx hb dX7_readExactly_92 hl (by decide) rfl (fun ls hl => ?_)
              refine lv_goto (tgt := 16) hx hb dX7_readExactly_94 (by decide) ?_
              exact ih_16 0 x_16 lu_8 fu_8 _ _ _ (ms_lt hm_16 (by show ((lz.toInt - x_16.toInt : Int)) < lz.toInt - p_.toInt; omega) (by show (0 : Int) < lz.toInt - p_.toInt; omega)) (by decide) (by show 0 ≤ x_16.toInt ∧ x_16.toInt ≤ lz.toInt + 15; omega) (by show 0 ≤ lu_8.toInt ∧ lu_8.toInt ≤ 300; omega) (hP.sub [0, 6, 7, 9, 1, 2, 3, 4, 5, 8] rfl) (hD.sub [0, 6, 7, 9, 1, 2, 3, 4, 5, 8] (by decide +kernel) rfl) hS (lv_sub hl [0, 1, 3, 4, 5, 6] rfl)
            · have tc_13 : ¬ fi.toInt = 0 := v_ne c_13
              refine lv_iconst (v := 1) hx hb dX7_readExactly_73 (by decide) ?_
              refine lv_goto (tgt := 78) hx hb dX7_readExactly_74 (by decide) ?_
              refine lv_istore (lv' := [(4, .int 1), (6, .int r_5), (5, .int p_), (0, .ref oP), (1, .int cd), (2, .ref nz), (3, .ref nd)]) hx hb dX7_readExactly_78 hl (by decide) rfl (fun ls hl => ?_)
              refine lv_iload hx hb dX7_readExactly_80 (lv_at hl 2 rfl) ?_
              refine lv_iconst (v := 1) hx hb dX7_readExactly_82 (by decide) ?_
              refine lv_iload hx hb dX7_readExactly_83 (lv_at hl 1 rfl) ?_
              refine kS_i (rest := [.int 1, .int p_]) hcf (m_X2_bytesIn l dC dI cI cS H.size r_5 ) kc_X2_bytesIn gX7_readExactly_X2_bytesIn rfl rfl ⟨Nat.le_of_ble_eq_true rfl, Nat.le_of_ble_eq_true rfl⟩ kX_t hK hP hD hS hA [] [0, 1, 2, 3, 4, 5, 6, 7, 8, 9] rfl (by decide +kernel) rfl hl rfl (Nat.le_of_ble_eq_true rfl) dX7_readExactly_85 ⟨Nat.le_of_ble_eq_true rfl, Nat.le_of_ble_eq_true rfl⟩ (fun r_17 H locs hB hJ hSn => ?_)
              obtain ⟨⟨hP1, hD1⟩, hf17_0⟩ := hB
              obtain ⟨hPn, hDn⟩ := hJ _ hP1 hD1 [(oP, .inr (7, [.ref oC, .ref nB, .int (-1)])), (oC, .inr (2, [.ref o4, .ref o5])), (o4, .inr (10, [.ref a41, .ref a42, .ref a43, .int l4])), (a41, .inl (cI, 256, .inl f41)), (o5, .inr (10, [.ref a51, .ref a52, .ref a53, .int l5])), (a51, .inl (cI, 256, .inl f51)), (nz, .inr (5, [.ref az, .int lz])), (az, .inl (cI, cz, .inl fz)), (nd, .inr (5, [.ref ad, .int lu_8])), (ad, .inl (cI, 300, .inl fu_8))] rfl
              clear hP hD hS hJ hP1 hD1
              have hP := hPn
              have hD := hDn
              have hS := hSn
              clear hPn hDn hSn
              refine va_mmax hx hb (by rw [hml]; exact hl.1.symm) hown (hts (.methodLink RX7 59 Lib.Math.max.name) (List.mem_of_getElem? (i := 3) rfl)) (hts (.static Lib.Math.max.name) (List.mem_of_getElem? (i := 4) rfl)) (hts (.initialized "java/lang/Math") (List.mem_of_getElem? (i := 5) rfl)) (hts (.code Lib.Math.max.name Lib.Math.max.code 2 (some .int)) (List.mem_of_getElem? (i := 6) rfl)) (Nat.le_of_ble_eq_true rfl) (Nat.le_of_ble_eq_true rfl) (Nat.zero_le _) (Nat.zero_le _) dX7_readExactly_88 ?_
              refine lv_topi (fun x_18 ex_18 => ?_)
              have tx_18 : 1 ≤ x_18.toInt ∧ r_17.toInt ≤ x_18.toInt ∧ (x_18.toInt = 1 ∨ x_18.toInt = r_17.toInt) := v_max ex_18
              refine lv_iadd hx hb dX7_readExactly_91 ?_
              refine lv_topi (fun x_19 ex_19 => ?_)
              have tx_19 : x_19.toInt = p_.toInt + x_18.toInt := v_add ex_19 (by show -2147483648 ≤ p_.toInt + x_18.toInt; omega) (by show p_.toInt + x_18.toInt < 2147483648; omega)
              refine lv_istore (lv' := [(5, .int x_19), (4, .int 1), (6, .int r_5), (0, .ref oP), (1, .int cd), (2, .ref nz), (3, .ref nd)]) hx hb dX7_readExactly_92 hl (by decide) rfl (fun ls hl => ?_)
              refine lv_goto (tgt := 16) hx hb dX7_readExactly_94 (by decide) ?_
              exact ih_16 1 x_19 lu_8 fu_8 _ _ _ (ms_lt hm_16 (by show ((lz.toInt - x_19.toInt : Int)) < lz.toInt - p_.toInt; omega) (by show (0 : Int) < lz.toInt - p_.toInt; omega)) (by decide) (by show 0 ≤ x_19.toInt ∧ x_19.toInt ≤ lz.toInt + 15; omega) (by show 0 ≤ lu_8.toInt ∧ lu_8.toInt ≤ 300; omega) (hP.sub [0, 6, 7, 9, 1, 2, 3, 4, 5, 8] rfl) (hD.sub [0, 6, 7, 9, 1, 2, 3, 4, 5, 8] (by decide +kernel) rfl) hS (lv_sub hl [0, 1, 3, 4, 5, 6] rfl)
        · have tc_6 : r_5.toInt = (-1) := v_eq c_6
          refine lv_aload_n hx hb dX7_readExactly_48 rfl (lv_at hl 3 rfl) ?_
          refine lv_iload hx hb dX7_readExactly_49 (lv_at hl 1 rfl) ?_
          refine va_put (D := (dC, dI)) (ci := 7) (v := .int p_) (ty := .int) (C := RX7) (T := TX7) (N := 3) hx hb hts in_X7 tyX7 tyX7_ok nmX7 hown hK hP hD hS 0 rfl rfl 2 (by decide) (hts (.fieldLink RX7 24 "TextMender$Passage" "fault" "I") (List.mem_of_getElem? (i := 1) rfl)) (fun _ h9 => h9) rfl (by decide +kernel) rfl rfl (Nat.le_of_ble_eq_true rfl) dX7_readExactly_51 (kW (wn := [(oP, .inr (7, [.ref oC, .ref nB, .int p_])), (ad, .inl (cI, 300, .inl f2)), (nd, .inr (5, [.ref ad, .int l2])), (oC, .inr (2, [.ref o4, .ref o5])), (o4, .inr (10, [.ref a41, .ref a42, .ref a43, .int l4])), (a41, .inl (cI, 256, .inl f41)), (o5, .inr (10, [.ref a51, .ref a52, .ref a53, .int l5])), (a51, .inl (cI, 256, .inl f51)), (nz, .inr (5, [.ref az, .int lz])), (az, .inl (cI, cz, .inl fz))]) rfl (fun H locs hPn hDn hSn => ?_))
          clear hP hD hS
          have hP := hPn
          have hD := hDn
          have hS := hSn
          clear hPn hDn hSn
          refine lv_iconst (v := 0) hx hb dX7_readExactly_54 (by decide) ?_
          exact kl_z (v := 0) hQQ hx hb hr hlocks hS dX7_readExactly_55 (rfl) ⟨p_, l2, f2, kPD_sub hP hD [0, 8, 9, 2, 1, 3, 4, 5, 6, 7] (by decide +kernel) rfl, g_l2, by decide⟩
  exact LOOP_16 _ 1 0 lu_1 fd _ _ _ (ms_s _) (by decide) (by show 0 ≤ (0 : Int) ∧ (0 : Int) ≤ lz.toInt + 15; omega) (by show 0 ≤ lu_1.toInt ∧ lu_1.toInt ≤ 300; omega) hP hD hS (lv_sub hl [0, 1, 2, 3, 4, 5] rfl)

set_option maxHeartbeats 40000000 in
set_option maxRecDepth 100000 in
theorem m_X7_pass (l : Launch) (dC : Nat → ClassId) (dI : Nat → Nat → Nat) (cI cS : ClassId) (sz : Nat) (oP : Nat) (nx : Nat) (nd : Nat) (oC : Nat) (nB : Nat) (aB : Nat) (ax : Nat) (ad : Nat) (o4 : Nat) (o5 : Nat) (a41 : Nat) (a42 : Nat) (a43 : Nat) (a51 : Nat) (a52 : Nat) (a53 : Nat) (ft : Int32) (lB : Int32) (fB : Nat → Int32) (lx : Int32) (fx : Nat → Int32) (ld : Int32) (fd : Nat → Int32) (l4 : Int32) (f41 : Nat → Int32) (f42 : Nat → Int32) (f43 : Nat → Int32) (l5 : Int32) (f51 : Nat → Int32) (f52 : Nat → Int32) (f53 : Nat → Int32) (a : Int32) (b : Int32) (g_lB : 0 ≤ lB.toInt ∧ lB.toInt ≤ 2400) (g_lx : 0 ≤ lx.toInt ∧ lx.toInt ≤ 300) (g_ld : 0 ≤ ld.toInt ∧ ld.toInt ≤ 300) : kMi l yX7_pass wsX7_pass ({ frames := 4, cells := 0, slots := 0, locals := 100 } : Room) [.ref oP, .int a, .int b, .ref nx, .ref nd] sz (dC, dI) vwCl [(cI, .int), (cS, .short)] [(oP, .inr (7, [.ref oC, .ref nB, .int ft])), (nB, .inr (5, [.ref aB, .int lB])), (aB, .inl (cI, 2400, .inl fB)), (nx, .inr (5, [.ref ax, .int lx])), (ax, .inl (cI, 300, .inl fx)), (nd, .inr (5, [.ref ad, .int ld])), (ad, .inl (cI, 300, .inl fd)), (oC, .inr (2, [.ref o4, .ref o5])), (o4, .inr (10, [.ref a41, .ref a42, .ref a43, .int l4])), (a41, .inl (cI, 256, .inl f41)), (a42, .inl (cI, 512, .inl f42)), (a43, .inl (cI, 512, .inl f43)), (o5, .inr (10, [.ref a51, .ref a52, .ref a53, .int l5])), (a51, .inl (cI, 256, .inl f51)), (a52, .inl (cI, 512, .inl f52)), (a53, .inl (cI, 512, .inl f53))] (va_Nw (.methodLinkNest RX2 52 yX11_isLetter "TextMender")) 0 0 (fun (A : Nat → Prop) (r : Int32) (hh9 : Heap) => ∃ (ft' : Int32) (lB' : Int32) (fB' : Nat → Int32) (ld' : Int32) (fd' : Nat → Int32), kPD (dC, dI) vwCl A [(oP, .inr (7, [.ref oC, .ref nB, .int ft'])), (nB, .inr (5, [.ref aB, .int lB'])), (aB, .inl (cI, 2400, .inl fB')), (nx, .inr (5, [.ref ax, .int lx])), (ax, .inl (cI, 300, .inl fx)), (nd, .inr (5, [.ref ad, .int ld'])), (ad, .inl (cI, 300, .inl fd')), (oC, .inr (2, [.ref o4, .ref o5])), (o4, .inr (10, [.ref a41, .ref a42, .ref a43, .int l4])), (a41, .inl (cI, 256, .inl f41)), (a42, .inl (cI, 512, .inl f42)), (a43, .inl (cI, 512, .inl f43)), (o5, .inr (10, [.ref a51, .ref a52, .ref a53, .int l5])), (a51, .inl (cI, 256, .inl f51)), (a52, .inl (cI, 512, .inl f52)), (a53, .inl (cI, 512, .inl f53))] hh9 ∧ (0 ≤ lB'.toInt ∧ lB'.toInt ≤ 2400) ∧ (0 ≤ ld'.toInt ∧ ld'.toInt ≤ 300) ∧ (0 ≤ r.toInt ∧ r.toInt ≤ 1)) := by
  refine kMi_of (cc := cX7_pass) (maxL := 5) (ret := (some .boolean)) (lv := [(0, .ref oP), (1, .int a), (2, .int b), (3, .ref nx), (4, .ref nd)]) (by decide +kernel) rfl rfl (Nat.le_of_ble_eq_true rfl) ?_
  intro p e s m below meth c A QQ ls hx hb hr hts hml hown hlocks hA hQQ hK hX hP hD hS hl
  have hown : s.vm.findClass RX7 = some m.cls := hown
  have hcf := k_cf hx hb hml hown hts
  have hN52 := hX
  have in_X7 : ∀ w ∈ wsX70, w ∈ wsX7_pass := fun _ h => List.mem_cons_of_mem _ (List.mem_append_left _ (List.mem_append_left _ (List.mem_append_left _ (List.mem_append_right _ (h)))))
  replace g_lB := hid g_lB
  replace g_lx := hid g_lx
  replace g_ld := hid g_ld
  refine lv_aload_n hx hb dX7_pass_0 rfl (lv_at hl 0 rfl) ?_
  refine lv_iload_n hx hb dX7_pass_1 rfl (lv_at hl 1 rfl) ?_
  refine lv_aload_n hx hb dX7_pass_2 rfl (lv_at hl 3 rfl) ?_
  refine kV_i (rest := []) (q0 := 0) (ci := 7) hcf (m_X7_write l dC dI cI cS s.heap.size oP nx oC nB aB o4 o5 a41 a42 a43 a51 a52 a53 ax ft lB fB l4 f42 f43 l5 f52 f53 lx fx a (g_lB) (g_lx)) kc_X7_write gX7_pass_X7_write rfl rfl rfl ⟨Nat.le_of_ble_eq_true rfl, Nat.le_of_ble_eq_true rfl⟩ kX_t hK hP hD hS hA [0, 1, 2, 7, 8, 10, 11, 12, 14, 15, 3, 4] [5, 6, 9, 13] rfl (by decide +kernel) rfl rfl rfl hl rfl (Nat.le_of_ble_eq_true rfl) dX7_pass_3 ⟨Nat.le_of_ble_eq_true rfl, Nat.le_of_ble_eq_true rfl⟩ (fun r_1 H locs hB hJ hSn => ?_)
  obtain ⟨ft_1, lB_1, fB_1, ⟨hP1, hD1⟩, hf1_0, hf1_1⟩ := hB
  obtain ⟨hPn, hDn⟩ := hJ _ hP1 hD1 [(nd, .inr (5, [.ref ad, .int ld])), (ad, .inl (cI, 300, .inl fd)), (a41, .inl (cI, 256, .inl f41)), (a51, .inl (cI, 256, .inl f51)), (oP, .inr (7, [.ref oC, .ref nB, .int ft_1])), (nB, .inr (5, [.ref aB, .int lB_1])), (aB, .inl (cI, 2400, .inl fB_1)), (oC, .inr (2, [.ref o4, .ref o5])), (o4, .inr (10, [.ref a41, .ref a42, .ref a43, .int l4])), (a42, .inl (cI, 512, .inl f42)), (a43, .inl (cI, 512, .inl f43)), (o5, .inr (10, [.ref a51, .ref a52, .ref a53, .int l5])), (a52, .inl (cI, 512, .inl f52)), (a53, .inl (cI, 512, .inl f53)), (nx, .inr (5, [.ref ax, .int lx])), (ax, .inl (cI, 300, .inl fx))] rfl
  clear hP hD hS hJ hP1 hD1
  have hP := hPn
  have hD := hDn
  have hS := hSn
  clear hPn hDn hSn
  refine lv_if_eq (tgt := 40) hx hb dX7_pass_6 (by decide) (fun c_2 => ?_) (fun c_2 => ?_)
  · have tc_2 : r_1.toInt = 0 := v_eq c_2
    refine lv_iconst (v := 0) hx hb dX7_pass_40 (by decide) ?_
    exact kl_z (v := 0) hQQ hx hb hr hlocks hS dX7_pass_41 (rfl) ⟨ft_1, lB_1, fB_1, ld, fd, kPD_sub hP hD [4, 5, 6, 14, 15, 0, 1, 7, 8, 2, 9, 10, 11, 3, 12, 13] (by decide +kernel) rfl, hf1_0, g_ld, by decide⟩
  · have tc_2 : ¬ r_1.toInt = 0 := v_ne c_2
    refine lv_aload_n hx hb dX7_pass_9 rfl (lv_at hl 0 rfl) ?_
    refine lv_iload_n hx hb dX7_pass_10 rfl (lv_at hl 2 rfl) ?_
    refine lv_aload_n hx hb dX7_pass_11 rfl (lv_at hl 0 rfl) ?_
    refine va_get (D := (dC, dI)) (ci := 7) (v := .ref nB) (C := RX7) (T := TX7) (N := 3) hx hb hts in_X7 hown hK hP 4 rfl rfl 1 (by decide) (hts (.fieldLink RX7 14 "TextMender$Passage" "bytes" "LTextMender$Numbers;") (List.mem_of_getElem? (i := 1) rfl)) (fun _ h9 => h9) rfl dX7_pass_12 ?_
    refine lv_aload hx hb dX7_pass_15 (lv_at hl 4 rfl) ?_
    refine kV_i (rest := []) (q0 := 0) (ci := 7) hcf (m_X7_readExactly l dC dI cI cS H.size oP nB nd oC nB aB ad o4 o5 a41 a42 a43 a51 a52 a53 2400 ft_1 lB_1 fB_1 ld fd l4 f41 l5 f51 b (by omega) (g_ld) (by omega)) kc_X7_readExactly gX7_pass_X7_readExactly rfl rfl rfl ⟨Nat.le_of_ble_eq_true rfl, Nat.le_of_ble_eq_true rfl⟩ (kX_1 hN52) hK hP hD hS hA [4, 5, 6, 0, 1, 7, 8, 2, 11, 3] [9, 10, 12, 13, 14, 15] rfl (by decide +kernel) rfl rfl rfl hl rfl (Nat.le_of_ble_eq_true rfl) dX7_pass_17 ⟨Nat.le_of_ble_eq_true rfl, Nat.le_of_ble_eq_true rfl⟩ (fun r_3 H locs hB hJ hSn => ?_)
    obtain ⟨ft_3, ld_3, fd_3, ⟨hP1, hD1⟩, hf3_0, hf3_1⟩ := hB
    obtain ⟨hPn, hDn⟩ := hJ _ hP1 hD1 [(a42, .inl (cI, 512, .inl f42)), (a43, .inl (cI, 512, .inl f43)), (a52, .inl (cI, 512, .inl f52)), (a53, .inl (cI, 512, .inl f53)), (nx, .inr (5, [.ref ax, .int lx])), (ax, .inl (cI, 300, .inl fx)), (oP, .inr (7, [.ref oC, .ref nB, .int ft_3])), (nB, .inr (5, [.ref aB, .int lB_1])), (aB, .inl (cI, 2400, .inl fB_1)), (nd, .inr (5, [.ref ad, .int ld_3])), (ad, .inl (cI, 300, .inl fd_3)), (oC, .inr (2, [.ref o4, .ref o5])), (o4, .inr (10, [.ref a41, .ref a42, .ref a43, .int l4])), (a41, .inl (cI, 256, .inl f41)), (o5, .inr (10, [.ref a51, .ref a52, .ref a53, .int l5])), (a51, .inl (cI, 256, .inl f51))] rfl
    clear hP hD hS hJ hP1 hD1
    have hP := hPn
    have hD := hDn
    have hS := hSn
    clear hPn hDn hSn
    refine lv_if_eq (tgt := 40) hx hb dX7_pass_20 (by decide) (fun c_4 => ?_) (fun c_4 => ?_)
    · have tc_4 : r_3.toInt = 0 := v_eq c_4
      refine lv_iconst (v := 0) hx hb dX7_pass_40 (by decide) ?_
      exact kl_z (v := 0) hQQ hx hb hr hlocks hS dX7_pass_41 (rfl) ⟨ft_3, lB_1, fB_1, ld_3, fd_3, kPD_sub hP hD [6, 7, 8, 4, 5, 9, 10, 11, 12, 13, 0, 1, 14, 15, 2, 3] (by decide +kernel) rfl, hf1_0, hf3_0, by decide⟩
    · have tc_4 : ¬ r_3.toInt = 0 := v_ne c_4
      refine lv_aload_n hx hb dX7_pass_23 rfl (lv_at hl 0 rfl) ?_
      refine va_get (D := (dC, dI)) (ci := 7) (v := .ref nB) (C := RX7) (T := TX7) (N := 3) hx hb hts in_X7 hown hK hP 6 rfl rfl 1 (by decide) (hts (.fieldLink RX7 14 "TextMender$Passage" "bytes" "LTextMender$Numbers;") (List.mem_of_getElem? (i := 1) rfl)) (fun _ h9 => h9) rfl dX7_pass_24 ?_
      refine kV_i (rest := []) (q0 := 0) (ci := 5) hcf (m_X5_length l dC dI cI cS H.size nB aB lB_1 ) kc_X5_length gX7_pass_X5_length rfl rfl rfl ⟨Nat.le_of_ble_eq_true rfl, Nat.le_of_ble_eq_true rfl⟩ kX_t hK hP hD hS hA [7] [0, 1, 2, 3, 4, 5, 6, 8, 9, 10, 11, 12, 13, 14, 15] rfl (by decide +kernel) rfl rfl rfl hl rfl (Nat.le_of_ble_eq_true rfl) dX7_pass_27 ⟨Nat.le_of_ble_eq_true rfl, Nat.le_of_ble_eq_true rfl⟩ (fun r_5 H locs hB hJ hSn => ?_)
      obtain ⟨⟨hP1, hD1⟩, hf5_0⟩ := hB
      obtain ⟨hPn, hDn⟩ := hJ _ hP1 hD1 [(a42, .inl (cI, 512, .inl f42)), (a43, .inl (cI, 512, .inl f43)), (a52, .inl (cI, 512, .inl f52)), (a53, .inl (cI, 512, .inl f53)), (nx, .inr (5, [.ref ax, .int lx])), (ax, .inl (cI, 300, .inl fx)), (oP, .inr (7, [.ref oC, .ref nB, .int ft_3])), (aB, .inl (cI, 2400, .inl fB_1)), (nd, .inr (5, [.ref ad, .int ld_3])), (ad, .inl (cI, 300, .inl fd_3)), (oC, .inr (2, [.ref o4, .ref o5])), (o4, .inr (10, [.ref a41, .ref a42, .ref a43, .int l4])), (a41, .inl (cI, 256, .inl f41)), (o5, .inr (10, [.ref a51, .ref a52, .ref a53, .int l5])), (a51, .inl (cI, 256, .inl f51)), (nB, .inr (5, [.ref aB, .int lB_1]))] rfl
      clear hP hD hS hJ hP1 hD1
      have hP := hPn
      have hD := hDn
      have hS := hSn
      clear hPn hDn hSn
      rw [hf5_0]
      refine lv_sipush (v := 900) hx hb dX7_pass_30 (by decide) ?_
      refine lv_icmp_gt (tgt := 40) hx hb dX7_pass_33 (by decide) (fun c_6 => ?_) (fun c_6 => ?_)
      · have tc_6 : 900 < lB_1.toInt := v_lt c_6
        refine lv_iconst (v := 0) hx hb dX7_pass_40 (by decide) ?_
        exact kl_z (v := 0) hQQ hx hb hr hlocks hS dX7_pass_41 (rfl) ⟨ft_3, lB_1, fB_1, ld_3, fd_3, kPD_sub hP hD [6, 15, 7, 4, 5, 8, 9, 10, 11, 12, 0, 1, 13, 14, 2, 3] (by decide +kernel) rfl, hf1_0, hf3_0, by decide⟩
      · have tc_6 : lB_1.toInt ≤ 900 := v_nlt c_6
        refine lv_iconst (v := 1) hx hb dX7_pass_36 (by decide) ?_
        refine lv_goto (tgt := 41) hx hb dX7_pass_37 (by decide) ?_
        exact kl_z (v := 1) hQQ hx hb hr hlocks hS dX7_pass_41 (rfl) ⟨ft_3, lB_1, fB_1, ld_3, fd_3, kPD_sub hP hD [6, 15, 7, 4, 5, 8, 9, 10, 11, 12, 0, 1, 13, 14, 2, 3] (by decide +kernel) rfl, hf1_0, hf3_0, by decide⟩

end

/-! 28.a.rows -/
section
set_option maxRecDepth 100000 in
theorem dA56_cX4_length : kDec cX4_length [(0, .aload_n 0, 1), (1, .getfield 22, 3), (4, .ireturn, 1)] = true := by decide +kernel
theorem dX4_length_0 : decode cX4_length 0 = .ok (.aload_n 0, 1) := kDec_at dA56_cX4_length 0 rfl
theorem dX4_length_1 : decode cX4_length 1 = .ok (.getfield 22, 3) := kDec_at dA56_cX4_length 1 rfl
theorem dX4_length_4 : decode cX4_length 4 = .ok (.ireturn, 1) := kDec_at dA56_cX4_length 2 rfl
set_option maxRecDepth 100000 in
theorem dA57_cX4_empty : kDec cX4_empty [(0, .aload_n 0, 1), (1, .iconst 0, 1), (2, .putfield 22, 3), (5, .return_, 1)] = true := by decide +kernel
theorem dX4_empty_0 : decode cX4_empty 0 = .ok (.aload_n 0, 1) := kDec_at dA57_cX4_empty 0 rfl
theorem dX4_empty_1 : decode cX4_empty 1 = .ok (.iconst 0, 1) := kDec_at dA57_cX4_empty 1 rfl
theorem dX4_empty_2 : decode cX4_empty 2 = .ok (.putfield 22, 3) := kDec_at dA57_cX4_empty 2 rfl
theorem dX4_empty_5 : decode cX4_empty 5 = .ok (.return_, 1) := kDec_at dA57_cX4_empty 3 rfl
set_option maxRecDepth 100000 in
theorem dA58_cX4_takeOff : kDec cX4_takeOff [(0, .iload_n 1, 1), (1, .ifCond .lt 39, 3), (40, .iconst 0, 1), (41, .ireturn, 1), (4, .iload_n 1, 1), (5, .aload_n 0, 1), (6, .getfield 22, 3), (9, .if_icmp .ge 31, 3), (12, .aload_n 0, 1), (13, .getfield 18, 3), (16, .aload_n 0, 1), (17, .getfield 15, 3), (20, .iload_n 1, 1), (21, .iaload, 1), (22, .aload_n 0, 1), (23, .getfield 9, 3), (26, .iload_n 1, 1), (27, .iaload, 1), (28, .aload_n 2, 1), (29, .aload_n 3, 1), (30, .invokevirtual 26, 3), (33, .ifCond .eq 7, 3), (36, .iconst 1, 1), (37, .goto 4, 3)] = true := by decide +kernel
theorem dX4_takeOff_0 : decode cX4_takeOff 0 = .ok (.iload_n 1, 1) := kDec_at dA58_cX4_takeOff 0 rfl
theorem dX4_takeOff_1 : decode cX4_takeOff 1 = .ok (.ifCond .lt 39, 3) := kDec_at dA58_cX4_takeOff 1 rfl
theorem dX4_takeOff_40 : decode cX4_takeOff 40 = .ok (.iconst 0, 1) := kDec_at dA58_cX4_takeOff 2 rfl
theorem dX4_takeOff_41 : decode cX4_takeOff 41 = .ok (.ireturn, 1) := kDec_at dA58_cX4_takeOff 3 rfl
theorem dX4_takeOff_4 : decode cX4_takeOff 4 = .ok (.iload_n 1, 1) := kDec_at dA58_cX4_takeOff 4 rfl
theorem dX4_takeOff_5 : decode cX4_takeOff 5 = .ok (.aload_n 0, 1) := kDec_at dA58_cX4_takeOff 5 rfl
theorem dX4_takeOff_6 : decode cX4_takeOff 6 = .ok (.getfield 22, 3) := kDec_at dA58_cX4_takeOff 6 rfl
theorem dX4_takeOff_9 : decode cX4_takeOff 9 = .ok (.if_icmp .ge 31, 3) := kDec_at dA58_cX4_takeOff 7 rfl
theorem dX4_takeOff_12 : decode cX4_takeOff 12 = .ok (.aload_n 0, 1) := kDec_at dA58_cX4_takeOff 8 rfl
theorem dX4_takeOff_13 : decode cX4_takeOff 13 = .ok (.getfield 18, 3) := kDec_at dA58_cX4_takeOff 9 rfl
theorem dX4_takeOff_16 : decode cX4_takeOff 16 = .ok (.aload_n 0, 1) := kDec_at dA58_cX4_takeOff 10 rfl
theorem dX4_takeOff_17 : decode cX4_takeOff 17 = .ok (.getfield 15, 3) := kDec_at dA58_cX4_takeOff 11 rfl
theorem dX4_takeOff_20 : decode cX4_takeOff 20 = .ok (.iload_n 1, 1) := kDec_at dA58_cX4_takeOff 12 rfl
theorem dX4_takeOff_21 : decode cX4_takeOff 21 = .ok (.iaload, 1) := kDec_at dA58_cX4_takeOff 13 rfl
theorem dX4_takeOff_22 : decode cX4_takeOff 22 = .ok (.aload_n 0, 1) := kDec_at dA58_cX4_takeOff 14 rfl
theorem dX4_takeOff_23 : decode cX4_takeOff 23 = .ok (.getfield 9, 3) := kDec_at dA58_cX4_takeOff 15 rfl
theorem dX4_takeOff_26 : decode cX4_takeOff 26 = .ok (.iload_n 1, 1) := kDec_at dA58_cX4_takeOff 16 rfl
theorem dX4_takeOff_27 : decode cX4_takeOff 27 = .ok (.iaload, 1) := kDec_at dA58_cX4_takeOff 17 rfl
theorem dX4_takeOff_28 : decode cX4_takeOff 28 = .ok (.aload_n 2, 1) := kDec_at dA58_cX4_takeOff 18 rfl
theorem dX4_takeOff_29 : decode cX4_takeOff 29 = .ok (.aload_n 3, 1) := kDec_at dA58_cX4_takeOff 19 rfl
theorem dX4_takeOff_30 : decode cX4_takeOff 30 = .ok (.invokevirtual 26, 3) := kDec_at dA58_cX4_takeOff 20 rfl
theorem dX4_takeOff_33 : decode cX4_takeOff 33 = .ok (.ifCond .eq 7, 3) := kDec_at dA58_cX4_takeOff 21 rfl
theorem dX4_takeOff_36 : decode cX4_takeOff 36 = .ok (.iconst 1, 1) := kDec_at dA58_cX4_takeOff 22 rfl
theorem dX4_takeOff_37 : decode cX4_takeOff 37 = .ok (.goto 4, 3) := kDec_at dA58_cX4_takeOff 23 rfl
set_option maxRecDepth 20000 in
theorem ggX4_takeOff_X7_pass : GoodIn wsX4_takeOff wsX7_pass := goodIn_r _ [9, 10, 11, 12, 13, 8, 14, 15, 16, 17, 18, 19, 20, 21, 22, 23, 24, 25, 26, 27, 28, 29, 30, 31, 32, 33, 34, 35, 36, 37, 38, 39, 40, 41, 42, 43, 44, 45, 46, 47, 48, 49, 50, 51, 52, 53, 54, 55, 56, 57, 58, 59, 60, 61, 62, 63, 64, 65, 66, 67, 68, 69, 70, 71, 72, 73, 74, 75, 76, 77, 78, 79, 80, 81, 82, 83, 84, 85, 86, 87, 88, 89, 90, 91, 92, 93, 94, 95, 96, 97, 98, 99, 100, 101, 102, 103, 104, 105, 106, 107, 108, 109, 110, 111, 116, 117, 118, 119, 120, 121, 122, 123, 124, 125, 126] rfl (by decide +kernel)
set_option maxRecDepth 20000 in
theorem gX4_takeOff_X7_pass : GoodIn wsX4_takeOff (wsV RX4 26 RX7 yX7_pass wsX7_pass) := goodIn_app (goodIn_r _ [5, 6, 7, 8] rfl (by decide +kernel)) ggX4_takeOff_X7_pass
set_option maxRecDepth 100000 in
theorem dA59_cX3_length : kDec cX3_length [(0, .aload_n 0, 1), (1, .getfield 24, 3), (4, .ireturn, 1)] = true := by decide +kernel
theorem dX3_length_0 : decode cX3_length 0 = .ok (.aload_n 0, 1) := kDec_at dA59_cX3_length 0 rfl
theorem dX3_length_1 : decode cX3_length 1 = .ok (.getfield 24, 3) := kDec_at dA59_cX3_length 1 rfl
theorem dX3_length_4 : decode cX3_length 4 = .ok (.ireturn, 1) := kDec_at dA59_cX3_length 2 rfl
set_option maxRecDepth 100000 in
theorem dA60_cX3_pairOf : kDec cX3_pairOf [(0, .iload_n 0, 1), (1, .bipush 16, 2), (3, .ishl, 1), (4, .iload_n 1, 1), (5, .ior, 1), (6, .ireturn, 1)] = true := by decide +kernel
theorem dX3_pairOf_0 : decode cX3_pairOf 0 = .ok (.iload_n 0, 1) := kDec_at dA60_cX3_pairOf 0 rfl
theorem dX3_pairOf_1 : decode cX3_pairOf 1 = .ok (.bipush 16, 2) := kDec_at dA60_cX3_pairOf 1 rfl
theorem dX3_pairOf_3 : decode cX3_pairOf 3 = .ok (.ishl, 1) := kDec_at dA60_cX3_pairOf 2 rfl
theorem dX3_pairOf_4 : decode cX3_pairOf 4 = .ok (.iload_n 1, 1) := kDec_at dA60_cX3_pairOf 3 rfl
theorem dX3_pairOf_5 : decode cX3_pairOf 5 = .ok (.ior, 1) := kDec_at dA60_cX3_pairOf 4 rfl
theorem dX3_pairOf_6 : decode cX3_pairOf 6 = .ok (.ireturn, 1) := kDec_at dA60_cX3_pairOf 5 rfl
set_option maxRecDepth 100000 in
theorem dA61_cX3_sortOutside : kDec cX3_sortOutside [(0, .iload_n 0, 1), (1, .bipush 32, 2), (3, .if_icmp .ne 5, 3), (8, .iload_n 0, 1), (9, .sipush 192, 3), (12, .if_icmp .lt 31, 3), (43, .iload_n 0, 1), (44, .sipush 880, 3), (47, .if_icmp .lt 15, 3), (62, .iconst 0, 1), (63, .ireturn, 1), (15, .iload_n 0, 1), (16, .sipush 591, 3), (19, .if_icmp .gt 24, 3), (50, .iload_n 0, 1), (51, .sipush 1327, 3), (54, .if_icmp .gt 8, 3), (57, .bipush 7, 2), (59, .goto 4, 3), (22, .iload_n 0, 1), (23, .sipush 215, 3), (26, .if_icmp .eq 10, 3), (36, .iconst 0, 1), (37, .goto 5, 3)] = true := by decide +kernel
theorem dX3_sortOutside_0 : decode cX3_sortOutside 0 = .ok (.iload_n 0, 1) := kDec_at dA61_cX3_sortOutside 0 rfl
theorem dX3_sortOutside_1 : decode cX3_sortOutside 1 = .ok (.bipush 32, 2) := kDec_at dA61_cX3_sortOutside 1 rfl
theorem dX3_sortOutside_3 : decode cX3_sortOutside 3 = .ok (.if_icmp .ne 5, 3) := kDec_at dA61_cX3_sortOutside 2 rfl
theorem dX3_sortOutside_8 : decode cX3_sortOutside 8 = .ok (.iload_n 0, 1) := kDec_at dA61_cX3_sortOutside 3 rfl
theorem dX3_sortOutside_9 : decode cX3_sortOutside 9 = .ok (.sipush 192, 3) := kDec_at dA61_cX3_sortOutside 4 rfl
theorem dX3_sortOutside_12 : decode cX3_sortOutside 12 = .ok (.if_icmp .lt 31, 3) := kDec_at dA61_cX3_sortOutside 5 rfl
theorem dX3_sortOutside_43 : decode cX3_sortOutside 43 = .ok (.iload_n 0, 1) := kDec_at dA61_cX3_sortOutside 6 rfl
theorem dX3_sortOutside_44 : decode cX3_sortOutside 44 = .ok (.sipush 880, 3) := kDec_at dA61_cX3_sortOutside 7 rfl
theorem dX3_sortOutside_47 : decode cX3_sortOutside 47 = .ok (.if_icmp .lt 15, 3) := kDec_at dA61_cX3_sortOutside 8 rfl
theorem dX3_sortOutside_62 : decode cX3_sortOutside 62 = .ok (.iconst 0, 1) := kDec_at dA61_cX3_sortOutside 9 rfl
theorem dX3_sortOutside_63 : decode cX3_sortOutside 63 = .ok (.ireturn, 1) := kDec_at dA61_cX3_sortOutside 10 rfl
theorem dX3_sortOutside_15 : decode cX3_sortOutside 15 = .ok (.iload_n 0, 1) := kDec_at dA61_cX3_sortOutside 11 rfl
theorem dX3_sortOutside_16 : decode cX3_sortOutside 16 = .ok (.sipush 591, 3) := kDec_at dA61_cX3_sortOutside 12 rfl
theorem dX3_sortOutside_19 : decode cX3_sortOutside 19 = .ok (.if_icmp .gt 24, 3) := kDec_at dA61_cX3_sortOutside 13 rfl
theorem dX3_sortOutside_50 : decode cX3_sortOutside 50 = .ok (.iload_n 0, 1) := kDec_at dA61_cX3_sortOutside 14 rfl
theorem dX3_sortOutside_51 : decode cX3_sortOutside 51 = .ok (.sipush 1327, 3) := kDec_at dA61_cX3_sortOutside 15 rfl
theorem dX3_sortOutside_54 : decode cX3_sortOutside 54 = .ok (.if_icmp .gt 8, 3) := kDec_at dA61_cX3_sortOutside 16 rfl
theorem dX3_sortOutside_57 : decode cX3_sortOutside 57 = .ok (.bipush 7, 2) := kDec_at dA61_cX3_sortOutside 17 rfl
theorem dX3_sortOutside_59 : decode cX3_sortOutside 59 = .ok (.goto 4, 3) := kDec_at dA61_cX3_sortOutside 18 rfl
theorem dX3_sortOutside_22 : decode cX3_sortOutside 22 = .ok (.iload_n 0, 1) := kDec_at dA61_cX3_sortOutside 19 rfl
theorem dX3_sortOutside_23 : decode cX3_sortOutside 23 = .ok (.sipush 215, 3) := kDec_at dA61_cX3_sortOutside 20 rfl
theorem dX3_sortOutside_26 : decode cX3_sortOutside 26 = .ok (.if_icmp .eq 10, 3) := kDec_at dA61_cX3_sortOutside 21 rfl
theorem dX3_sortOutside_36 : decode cX3_sortOutside 36 = .ok (.iconst 0, 1) := kDec_at dA61_cX3_sortOutside 22 rfl
theorem dX3_sortOutside_37 : decode cX3_sortOutside 37 = .ok (.goto 5, 3) := kDec_at dA61_cX3_sortOutside 23 rfl
set_option maxRecDepth 100000 in
theorem dA62_cX3_sortOutside : kDec cX3_sortOutside [(42, .ireturn, 1), (29, .iload_n 0, 1), (30, .sipush 247, 3), (33, .if_icmp .ne 7, 3), (40, .bipush 6, 2), (6, .iconst 4, 1), (7, .ireturn, 1)] = true := by decide +kernel
theorem dX3_sortOutside_42 : decode cX3_sortOutside 42 = .ok (.ireturn, 1) := kDec_at dA62_cX3_sortOutside 0 rfl
theorem dX3_sortOutside_29 : decode cX3_sortOutside 29 = .ok (.iload_n 0, 1) := kDec_at dA62_cX3_sortOutside 1 rfl
theorem dX3_sortOutside_30 : decode cX3_sortOutside 30 = .ok (.sipush 247, 3) := kDec_at dA62_cX3_sortOutside 2 rfl
theorem dX3_sortOutside_33 : decode cX3_sortOutside 33 = .ok (.if_icmp .ne 7, 3) := kDec_at dA62_cX3_sortOutside 3 rfl
theorem dX3_sortOutside_40 : decode cX3_sortOutside 40 = .ok (.bipush 6, 2) := kDec_at dA62_cX3_sortOutside 4 rfl
theorem dX3_sortOutside_6 : decode cX3_sortOutside 6 = .ok (.iconst 4, 1) := kDec_at dA62_cX3_sortOutside 5 rfl
theorem dX3_sortOutside_7 : decode cX3_sortOutside 7 = .ok (.ireturn, 1) := kDec_at dA62_cX3_sortOutside 6 rfl
set_option maxRecDepth 100000 in
theorem dA63_cX3_sortOf : kDec cX3_sortOf [(0, .iload_n 0, 1), (1, .bipush 33, 2), (3, .if_icmp .lt 9, 3), (12, .iload_n 0, 1), (13, .invokestatic 50, 3), (16, .ireturn, 1), (6, .iload_n 0, 1), (7, .bipush 126, 2), (9, .if_icmp .le 8, 3), (17, .iload_n 0, 1), (18, .bipush 97, 2), (20, .if_icmp .lt 11, 3), (31, .iload_n 0, 1), (32, .bipush 65, 2), (34, .if_icmp .lt 11, 3), (45, .iload_n 0, 1), (46, .bipush 48, 2), (48, .if_icmp .lt 13, 3), (61, .iconst 5, 1), (62, .ireturn, 1), (51, .iload_n 0, 1), (52, .bipush 57, 2), (54, .if_icmp .gt 7, 3), (57, .iconst 3, 1)] = true := by decide +kernel
theorem dX3_sortOf_0 : decode cX3_sortOf 0 = .ok (.iload_n 0, 1) := kDec_at dA63_cX3_sortOf 0 rfl
theorem dX3_sortOf_1 : decode cX3_sortOf 1 = .ok (.bipush 33, 2) := kDec_at dA63_cX3_sortOf 1 rfl
theorem dX3_sortOf_3 : decode cX3_sortOf 3 = .ok (.if_icmp .lt 9, 3) := kDec_at dA63_cX3_sortOf 2 rfl
theorem dX3_sortOf_12 : decode cX3_sortOf 12 = .ok (.iload_n 0, 1) := kDec_at dA63_cX3_sortOf 3 rfl
theorem dX3_sortOf_13 : decode cX3_sortOf 13 = .ok (.invokestatic 50, 3) := kDec_at dA63_cX3_sortOf 4 rfl
theorem dX3_sortOf_16 : decode cX3_sortOf 16 = .ok (.ireturn, 1) := kDec_at dA63_cX3_sortOf 5 rfl
theorem dX3_sortOf_6 : decode cX3_sortOf 6 = .ok (.iload_n 0, 1) := kDec_at dA63_cX3_sortOf 6 rfl
theorem dX3_sortOf_7 : decode cX3_sortOf 7 = .ok (.bipush 126, 2) := kDec_at dA63_cX3_sortOf 7 rfl
theorem dX3_sortOf_9 : decode cX3_sortOf 9 = .ok (.if_icmp .le 8, 3) := kDec_at dA63_cX3_sortOf 8 rfl
theorem dX3_sortOf_17 : decode cX3_sortOf 17 = .ok (.iload_n 0, 1) := kDec_at dA63_cX3_sortOf 9 rfl
theorem dX3_sortOf_18 : decode cX3_sortOf 18 = .ok (.bipush 97, 2) := kDec_at dA63_cX3_sortOf 10 rfl
theorem dX3_sortOf_20 : decode cX3_sortOf 20 = .ok (.if_icmp .lt 11, 3) := kDec_at dA63_cX3_sortOf 11 rfl
theorem dX3_sortOf_31 : decode cX3_sortOf 31 = .ok (.iload_n 0, 1) := kDec_at dA63_cX3_sortOf 12 rfl
theorem dX3_sortOf_32 : decode cX3_sortOf 32 = .ok (.bipush 65, 2) := kDec_at dA63_cX3_sortOf 13 rfl
theorem dX3_sortOf_34 : decode cX3_sortOf 34 = .ok (.if_icmp .lt 11, 3) := kDec_at dA63_cX3_sortOf 14 rfl
theorem dX3_sortOf_45 : decode cX3_sortOf 45 = .ok (.iload_n 0, 1) := kDec_at dA63_cX3_sortOf 15 rfl
theorem dX3_sortOf_46 : decode cX3_sortOf 46 = .ok (.bipush 48, 2) := kDec_at dA63_cX3_sortOf 16 rfl
theorem dX3_sortOf_48 : decode cX3_sortOf 48 = .ok (.if_icmp .lt 13, 3) := kDec_at dA63_cX3_sortOf 17 rfl
theorem dX3_sortOf_61 : decode cX3_sortOf 61 = .ok (.iconst 5, 1) := kDec_at dA63_cX3_sortOf 18 rfl
theorem dX3_sortOf_62 : decode cX3_sortOf 62 = .ok (.ireturn, 1) := kDec_at dA63_cX3_sortOf 19 rfl
theorem dX3_sortOf_51 : decode cX3_sortOf 51 = .ok (.iload_n 0, 1) := kDec_at dA63_cX3_sortOf 20 rfl
theorem dX3_sortOf_52 : decode cX3_sortOf 52 = .ok (.bipush 57, 2) := kDec_at dA63_cX3_sortOf 21 rfl
theorem dX3_sortOf_54 : decode cX3_sortOf 54 = .ok (.if_icmp .gt 7, 3) := kDec_at dA63_cX3_sortOf 22 rfl
theorem dX3_sortOf_57 : decode cX3_sortOf 57 = .ok (.iconst 3, 1) := kDec_at dA63_cX3_sortOf 23 rfl
set_option maxRecDepth 20000 in
theorem ggX3_sortOf_X3_sortOutside : GoodIn wsX3_sortOf wsX3_sortOutside := goodIn_r _ [4] rfl (by decide +kernel)
set_option maxRecDepth 20000 in
theorem gX3_sortOf_X3_sortOutside : GoodIn wsX3_sortOf (va_wsS RX3 50 yX3_sortOutside wsX3_sortOutside) := goodIn_app (goodIn_r _ [1, 2, 3] rfl (by decide +kernel)) ggX3_sortOf_X3_sortOutside
set_option maxRecDepth 100000 in
theorem dA64_cX3_sortOf : kDec cX3_sortOf [(58, .goto 4, 3), (37, .iload_n 0, 1), (38, .bipush 90, 2), (40, .if_icmp .gt 5, 3), (43, .iconst 2, 1), (44, .ireturn, 1), (23, .iload_n 0, 1), (24, .bipush 122, 2), (26, .if_icmp .gt 5, 3), (29, .iconst 1, 1), (30, .ireturn, 1)] = true := by decide +kernel
theorem dX3_sortOf_58 : decode cX3_sortOf 58 = .ok (.goto 4, 3) := kDec_at dA64_cX3_sortOf 0 rfl
theorem dX3_sortOf_37 : decode cX3_sortOf 37 = .ok (.iload_n 0, 1) := kDec_at dA64_cX3_sortOf 1 rfl
theorem dX3_sortOf_38 : decode cX3_sortOf 38 = .ok (.bipush 90, 2) := kDec_at dA64_cX3_sortOf 2 rfl
theorem dX3_sortOf_40 : decode cX3_sortOf 40 = .ok (.if_icmp .gt 5, 3) := kDec_at dA64_cX3_sortOf 3 rfl
theorem dX3_sortOf_43 : decode cX3_sortOf 43 = .ok (.iconst 2, 1) := kDec_at dA64_cX3_sortOf 4 rfl
theorem dX3_sortOf_44 : decode cX3_sortOf 44 = .ok (.ireturn, 1) := kDec_at dA64_cX3_sortOf 5 rfl
theorem dX3_sortOf_23 : decode cX3_sortOf 23 = .ok (.iload_n 0, 1) := kDec_at dA64_cX3_sortOf 6 rfl
theorem dX3_sortOf_24 : decode cX3_sortOf 24 = .ok (.bipush 122, 2) := kDec_at dA64_cX3_sortOf 7 rfl
theorem dX3_sortOf_26 : decode cX3_sortOf 26 = .ok (.if_icmp .gt 5, 3) := kDec_at dA64_cX3_sortOf 8 rfl
theorem dX3_sortOf_29 : decode cX3_sortOf 29 = .ok (.iconst 1, 1) := kDec_at dA64_cX3_sortOf 9 rfl
theorem dX3_sortOf_30 : decode cX3_sortOf 30 = .ok (.ireturn, 1) := kDec_at dA64_cX3_sortOf 10 rfl
set_option maxRecDepth 100000 in
theorem dA65_cX3_placeFor : kDec cX3_placeFor [(0, .iload_n 1, 1), (1, .iload_n 2, 1), (2, .invokestatic 32, 3), (5, .istore_n 3, 1), (6, .iload_n 3, 1), (7, .ldc 53, 2), (9, .imul, 1), (10, .bipush 22, 2), (12, .iushr, 1), (13, .istore 4, 2), (15, .iconst 0, 1), (16, .istore 5, 2), (18, .iload 5, 2), (20, .sipush 1024, 3), (23, .if_icmp .ge 45, 3), (68, .iconst (-1), 1), (69, .ireturn, 1), (26, .iload 4, 2), (28, .iload 5, 2), (30, .iadd, 1), (31, .sipush 1023, 3), (34, .iand, 1), (35, .istore 6, 2), (37, .aload_n 0, 1)] = true := by decide +kernel
theorem dX3_placeFor_0 : decode cX3_placeFor 0 = .ok (.iload_n 1, 1) := kDec_at dA65_cX3_placeFor 0 rfl
theorem dX3_placeFor_1 : decode cX3_placeFor 1 = .ok (.iload_n 2, 1) := kDec_at dA65_cX3_placeFor 1 rfl
theorem dX3_placeFor_2 : decode cX3_placeFor 2 = .ok (.invokestatic 32, 3) := kDec_at dA65_cX3_placeFor 2 rfl
theorem dX3_placeFor_5 : decode cX3_placeFor 5 = .ok (.istore_n 3, 1) := kDec_at dA65_cX3_placeFor 3 rfl
theorem dX3_placeFor_6 : decode cX3_placeFor 6 = .ok (.iload_n 3, 1) := kDec_at dA65_cX3_placeFor 4 rfl
theorem dX3_placeFor_7 : decode cX3_placeFor 7 = .ok (.ldc 53, 2) := kDec_at dA65_cX3_placeFor 5 rfl
theorem dX3_placeFor_9 : decode cX3_placeFor 9 = .ok (.imul, 1) := kDec_at dA65_cX3_placeFor 6 rfl
theorem dX3_placeFor_10 : decode cX3_placeFor 10 = .ok (.bipush 22, 2) := kDec_at dA65_cX3_placeFor 7 rfl
theorem dX3_placeFor_12 : decode cX3_placeFor 12 = .ok (.iushr, 1) := kDec_at dA65_cX3_placeFor 8 rfl
theorem dX3_placeFor_13 : decode cX3_placeFor 13 = .ok (.istore 4, 2) := kDec_at dA65_cX3_placeFor 9 rfl
theorem dX3_placeFor_15 : decode cX3_placeFor 15 = .ok (.iconst 0, 1) := kDec_at dA65_cX3_placeFor 10 rfl
theorem dX3_placeFor_16 : decode cX3_placeFor 16 = .ok (.istore 5, 2) := kDec_at dA65_cX3_placeFor 11 rfl
theorem dX3_placeFor_18 : decode cX3_placeFor 18 = .ok (.iload 5, 2) := kDec_at dA65_cX3_placeFor 12 rfl
theorem dX3_placeFor_20 : decode cX3_placeFor 20 = .ok (.sipush 1024, 3) := kDec_at dA65_cX3_placeFor 13 rfl
theorem dX3_placeFor_23 : decode cX3_placeFor 23 = .ok (.if_icmp .ge 45, 3) := kDec_at dA65_cX3_placeFor 14 rfl
theorem dX3_placeFor_68 : decode cX3_placeFor 68 = .ok (.iconst (-1), 1) := kDec_at dA65_cX3_placeFor 15 rfl
theorem dX3_placeFor_69 : decode cX3_placeFor 69 = .ok (.ireturn, 1) := kDec_at dA65_cX3_placeFor 16 rfl
theorem dX3_placeFor_26 : decode cX3_placeFor 26 = .ok (.iload 4, 2) := kDec_at dA65_cX3_placeFor 17 rfl
theorem dX3_placeFor_28 : decode cX3_placeFor 28 = .ok (.iload 5, 2) := kDec_at dA65_cX3_placeFor 18 rfl
theorem dX3_placeFor_30 : decode cX3_placeFor 30 = .ok (.iadd, 1) := kDec_at dA65_cX3_placeFor 19 rfl
theorem dX3_placeFor_31 : decode cX3_placeFor 31 = .ok (.sipush 1023, 3) := kDec_at dA65_cX3_placeFor 20 rfl
theorem dX3_placeFor_34 : decode cX3_placeFor 34 = .ok (.iand, 1) := kDec_at dA65_cX3_placeFor 21 rfl
theorem dX3_placeFor_35 : decode cX3_placeFor 35 = .ok (.istore 6, 2) := kDec_at dA65_cX3_placeFor 22 rfl
theorem dX3_placeFor_37 : decode cX3_placeFor 37 = .ok (.aload_n 0, 1) := kDec_at dA65_cX3_placeFor 23 rfl
set_option maxRecDepth 20000 in
theorem ggX3_placeFor_X3_pairOf : GoodIn wsX3_placeFor wsX3_pairOf := goodIn_r _ [7] rfl (by decide +kernel)
set_option maxRecDepth 20000 in
theorem gX3_placeFor_X3_pairOf : GoodIn wsX3_placeFor (va_wsS RX3 32 yX3_pairOf wsX3_pairOf) := goodIn_app (goodIn_r _ [4, 5, 6] rfl (by decide +kernel)) ggX3_placeFor_X3_pairOf
set_option maxRecDepth 100000 in
theorem dA66_cX3_placeFor : kDec cX3_placeFor [(38, .getfield 15, 3), (41, .iload 6, 2), (43, .iaload, 1), (44, .iconst (-1), 1), (45, .if_icmp .eq 14, 3), (59, .iload 6, 2), (61, .ireturn, 1), (48, .aload_n 0, 1), (49, .getfield 11, 3), (52, .iload 6, 2), (54, .iaload, 1), (55, .iload_n 3, 1), (56, .if_icmp .ne 6, 3), (62, .iinc 5 1, 3), (65, .goto (-47), 3)] = true := by decide +kernel
theorem dX3_placeFor_38 : decode cX3_placeFor 38 = .ok (.getfield 15, 3) := kDec_at dA66_cX3_placeFor 0 rfl
theorem dX3_placeFor_41 : decode cX3_placeFor 41 = .ok (.iload 6, 2) := kDec_at dA66_cX3_placeFor 1 rfl
theorem dX3_placeFor_43 : decode cX3_placeFor 43 = .ok (.iaload, 1) := kDec_at dA66_cX3_placeFor 2 rfl
theorem dX3_placeFor_44 : decode cX3_placeFor 44 = .ok (.iconst (-1), 1) := kDec_at dA66_cX3_placeFor 3 rfl
theorem dX3_placeFor_45 : decode cX3_placeFor 45 = .ok (.if_icmp .eq 14, 3) := kDec_at dA66_cX3_placeFor 4 rfl
theorem dX3_placeFor_59 : decode cX3_placeFor 59 = .ok (.iload 6, 2) := kDec_at dA66_cX3_placeFor 5 rfl
theorem dX3_placeFor_61 : decode cX3_placeFor 61 = .ok (.ireturn, 1) := kDec_at dA66_cX3_placeFor 6 rfl
theorem dX3_placeFor_48 : decode cX3_placeFor 48 = .ok (.aload_n 0, 1) := kDec_at dA66_cX3_placeFor 7 rfl
theorem dX3_placeFor_49 : decode cX3_placeFor 49 = .ok (.getfield 11, 3) := kDec_at dA66_cX3_placeFor 8 rfl
theorem dX3_placeFor_52 : decode cX3_placeFor 52 = .ok (.iload 6, 2) := kDec_at dA66_cX3_placeFor 9 rfl
theorem dX3_placeFor_54 : decode cX3_placeFor 54 = .ok (.iaload, 1) := kDec_at dA66_cX3_placeFor 10 rfl
theorem dX3_placeFor_55 : decode cX3_placeFor 55 = .ok (.iload_n 3, 1) := kDec_at dA66_cX3_placeFor 11 rfl
theorem dX3_placeFor_56 : decode cX3_placeFor 56 = .ok (.if_icmp .ne 6, 3) := kDec_at dA66_cX3_placeFor 12 rfl
theorem dX3_placeFor_62 : decode cX3_placeFor 62 = .ok (.iinc 5 1, 3) := kDec_at dA66_cX3_placeFor 13 rfl
theorem dX3_placeFor_65 : decode cX3_placeFor 65 = .ok (.goto (-47), 3) := kDec_at dA66_cX3_placeFor 14 rfl
set_option maxRecDepth 100000 in
theorem dA67_cX3_of : kDec cX3_of [(0, .aload_n 0, 1), (1, .getfield 24, 3), (4, .ifCond .ne 7, 3), (11, .aload_n 0, 1), (12, .iload_n 1, 1), (13, .iload_n 2, 1), (14, .invokevirtual 28, 3), (17, .istore_n 3, 1), (18, .iload_n 3, 1), (19, .iconst (-1), 1), (20, .if_icmp .eq 20, 3), (40, .iload_n 1, 1), (41, .invokestatic 35, 3), (44, .istore 4, 2), (46, .iload_n 2, 1), (47, .invokestatic 35, 3), (50, .istore 5, 2), (52, .iload 4, 2), (54, .iload 5, 2), (56, .if_icmp .ne 7, 3), (63, .bipush 9, 2), (65, .istore 6, 2), (67, .iload 6, 2), (69, .iload 4, 2)] = true := by decide +kernel
theorem dX3_of_0 : decode cX3_of 0 = .ok (.aload_n 0, 1) := kDec_at dA67_cX3_of 0 rfl
theorem dX3_of_1 : decode cX3_of 1 = .ok (.getfield 24, 3) := kDec_at dA67_cX3_of 1 rfl
theorem dX3_of_4 : decode cX3_of 4 = .ok (.ifCond .ne 7, 3) := kDec_at dA67_cX3_of 2 rfl
theorem dX3_of_11 : decode cX3_of 11 = .ok (.aload_n 0, 1) := kDec_at dA67_cX3_of 3 rfl
theorem dX3_of_12 : decode cX3_of 12 = .ok (.iload_n 1, 1) := kDec_at dA67_cX3_of 4 rfl
theorem dX3_of_13 : decode cX3_of 13 = .ok (.iload_n 2, 1) := kDec_at dA67_cX3_of 5 rfl
theorem dX3_of_14 : decode cX3_of 14 = .ok (.invokevirtual 28, 3) := kDec_at dA67_cX3_of 6 rfl
theorem dX3_of_17 : decode cX3_of 17 = .ok (.istore_n 3, 1) := kDec_at dA67_cX3_of 7 rfl
theorem dX3_of_18 : decode cX3_of 18 = .ok (.iload_n 3, 1) := kDec_at dA67_cX3_of 8 rfl
theorem dX3_of_19 : decode cX3_of 19 = .ok (.iconst (-1), 1) := kDec_at dA67_cX3_of 9 rfl
theorem dX3_of_20 : decode cX3_of 20 = .ok (.if_icmp .eq 20, 3) := kDec_at dA67_cX3_of 10 rfl
theorem dX3_of_40 : decode cX3_of 40 = .ok (.iload_n 1, 1) := kDec_at dA67_cX3_of 11 rfl
theorem dX3_of_41 : decode cX3_of 41 = .ok (.invokestatic 35, 3) := kDec_at dA67_cX3_of 12 rfl
theorem dX3_of_44 : decode cX3_of 44 = .ok (.istore 4, 2) := kDec_at dA67_cX3_of 13 rfl
theorem dX3_of_46 : decode cX3_of 46 = .ok (.iload_n 2, 1) := kDec_at dA67_cX3_of 14 rfl
theorem dX3_of_47 : decode cX3_of 47 = .ok (.invokestatic 35, 3) := kDec_at dA67_cX3_of 15 rfl
theorem dX3_of_50 : decode cX3_of 50 = .ok (.istore 5, 2) := kDec_at dA67_cX3_of 16 rfl
theorem dX3_of_52 : decode cX3_of 52 = .ok (.iload 4, 2) := kDec_at dA67_cX3_of 17 rfl
theorem dX3_of_54 : decode cX3_of 54 = .ok (.iload 5, 2) := kDec_at dA67_cX3_of 18 rfl
theorem dX3_of_56 : decode cX3_of 56 = .ok (.if_icmp .ne 7, 3) := kDec_at dA67_cX3_of 19 rfl
theorem dX3_of_63 : decode cX3_of 63 = .ok (.bipush 9, 2) := kDec_at dA67_cX3_of 20 rfl
theorem dX3_of_65 : decode cX3_of 65 = .ok (.istore 6, 2) := kDec_at dA67_cX3_of 21 rfl
theorem dX3_of_67 : decode cX3_of 67 = .ok (.iload 6, 2) := kDec_at dA67_cX3_of 22 rfl
theorem dX3_of_69 : decode cX3_of 69 = .ok (.iload 4, 2) := kDec_at dA67_cX3_of 23 rfl
set_option maxRecDepth 20000 in
theorem ggX3_of_X3_placeFor : GoodIn wsX3_of wsX3_placeFor := goodIn_r _ [7, 8, 2, 9, 10, 11, 6, 12, 19, 20, 21] rfl (by decide +kernel)
set_option maxRecDepth 20000 in
theorem gX3_of_X3_placeFor : GoodIn wsX3_of (wsV RX3 28 RX3 yX3_placeFor wsX3_placeFor) := goodIn_app (goodIn_r _ [3, 4, 5, 6] rfl (by decide +kernel)) ggX3_of_X3_placeFor
set_option maxRecDepth 20000 in
theorem ggX3_of_X3_sortOf : GoodIn wsX3_of wsX3_sortOf := goodIn_r _ [15, 16, 17, 6, 18] rfl (by decide +kernel)
set_option maxRecDepth 20000 in
theorem gX3_of_X3_sortOf : GoodIn wsX3_of (va_wsS RX3 35 yX3_sortOf wsX3_sortOf) := goodIn_app (goodIn_r _ [13, 14, 6] rfl (by decide +kernel)) ggX3_of_X3_sortOf
set_option maxRecDepth 100000 in
theorem dA68_cX3_of : kDec cX3_of [(71, .ifCond .ne 8, 3), (79, .iconst 0, 1), (80, .iadd, 1), (81, .istore 6, 2), (83, .iload 6, 2), (85, .iload 5, 2), (87, .ifCond .ne 8, 3), (95, .iconst 0, 1), (96, .iadd, 1), (97, .ireturn, 1), (90, .bipush 30, 2), (92, .goto 4, 3), (74, .bipush 30, 2), (76, .goto 4, 3), (59, .iconst 4, 1), (60, .goto 5, 3), (23, .aload_n 0, 1), (24, .getfield 15, 3), (27, .iload_n 3, 1), (28, .iaload, 1), (29, .iconst (-1), 1), (30, .if_icmp .eq 10, 3), (33, .aload_n 0, 1), (34, .getfield 15, 3)] = true := by decide +kernel
theorem dX3_of_71 : decode cX3_of 71 = .ok (.ifCond .ne 8, 3) := kDec_at dA68_cX3_of 0 rfl
theorem dX3_of_79 : decode cX3_of 79 = .ok (.iconst 0, 1) := kDec_at dA68_cX3_of 1 rfl
theorem dX3_of_80 : decode cX3_of 80 = .ok (.iadd, 1) := kDec_at dA68_cX3_of 2 rfl
theorem dX3_of_81 : decode cX3_of 81 = .ok (.istore 6, 2) := kDec_at dA68_cX3_of 3 rfl
theorem dX3_of_83 : decode cX3_of 83 = .ok (.iload 6, 2) := kDec_at dA68_cX3_of 4 rfl
theorem dX3_of_85 : decode cX3_of 85 = .ok (.iload 5, 2) := kDec_at dA68_cX3_of 5 rfl
theorem dX3_of_87 : decode cX3_of 87 = .ok (.ifCond .ne 8, 3) := kDec_at dA68_cX3_of 6 rfl
theorem dX3_of_95 : decode cX3_of 95 = .ok (.iconst 0, 1) := kDec_at dA68_cX3_of 7 rfl
theorem dX3_of_96 : decode cX3_of 96 = .ok (.iadd, 1) := kDec_at dA68_cX3_of 8 rfl
theorem dX3_of_97 : decode cX3_of 97 = .ok (.ireturn, 1) := kDec_at dA68_cX3_of 9 rfl
theorem dX3_of_90 : decode cX3_of 90 = .ok (.bipush 30, 2) := kDec_at dA68_cX3_of 10 rfl
theorem dX3_of_92 : decode cX3_of 92 = .ok (.goto 4, 3) := kDec_at dA68_cX3_of 11 rfl
theorem dX3_of_74 : decode cX3_of 74 = .ok (.bipush 30, 2) := kDec_at dA68_cX3_of 12 rfl
theorem dX3_of_76 : decode cX3_of 76 = .ok (.goto 4, 3) := kDec_at dA68_cX3_of 13 rfl
theorem dX3_of_59 : decode cX3_of 59 = .ok (.iconst 4, 1) := kDec_at dA68_cX3_of 14 rfl
theorem dX3_of_60 : decode cX3_of 60 = .ok (.goto 5, 3) := kDec_at dA68_cX3_of 15 rfl
theorem dX3_of_23 : decode cX3_of 23 = .ok (.aload_n 0, 1) := kDec_at dA68_cX3_of 16 rfl
theorem dX3_of_24 : decode cX3_of 24 = .ok (.getfield 15, 3) := kDec_at dA68_cX3_of 17 rfl
theorem dX3_of_27 : decode cX3_of 27 = .ok (.iload_n 3, 1) := kDec_at dA68_cX3_of 18 rfl
theorem dX3_of_28 : decode cX3_of 28 = .ok (.iaload, 1) := kDec_at dA68_cX3_of 19 rfl
theorem dX3_of_29 : decode cX3_of 29 = .ok (.iconst (-1), 1) := kDec_at dA68_cX3_of 20 rfl
theorem dX3_of_30 : decode cX3_of 30 = .ok (.if_icmp .eq 10, 3) := kDec_at dA68_cX3_of 21 rfl
theorem dX3_of_33 : decode cX3_of 33 = .ok (.aload_n 0, 1) := kDec_at dA68_cX3_of 22 rfl
theorem dX3_of_34 : decode cX3_of 34 = .ok (.getfield 15, 3) := kDec_at dA68_cX3_of 23 rfl
set_option maxRecDepth 100000 in
theorem dA69_cX3_of : kDec cX3_of [(37, .iload_n 3, 1), (38, .iaload, 1), (39, .ireturn, 1), (7, .iconst (-1), 1), (8, .goto 9, 3)] = true := by decide +kernel
theorem dX3_of_37 : decode cX3_of 37 = .ok (.iload_n 3, 1) := kDec_at dA69_cX3_of 0 rfl
theorem dX3_of_38 : decode cX3_of 38 = .ok (.iaload, 1) := kDec_at dA69_cX3_of 1 rfl
theorem dX3_of_39 : decode cX3_of 39 = .ok (.ireturn, 1) := kDec_at dA69_cX3_of 2 rfl
theorem dX3_of_7 : decode cX3_of 7 = .ok (.iconst (-1), 1) := kDec_at dA69_cX3_of 3 rfl
theorem dX3_of_8 : decode cX3_of 8 = .ok (.goto 9, 3) := kDec_at dA69_cX3_of 4 rfl
set_option maxRecDepth 100000 in
theorem dA70_cX3_ofText : kDec cX3_ofText [(0, .iconst 0, 1), (1, .istore_n 2, 1), (2, .bipush 32, 2), (4, .istore_n 3, 1), (5, .iconst 0, 1), (6, .istore 4, 2), (8, .iload 4, 2), (10, .aload_n 1, 1), (11, .invokevirtual 39, 3), (14, .if_icmp .ge 30, 3), (44, .iload_n 2, 1), (45, .aload_n 0, 1), (46, .iload_n 3, 1), (47, .bipush 32, 2), (49, .invokevirtual 47, 3), (52, .iadd, 1), (53, .ireturn, 1), (17, .aload_n 1, 1), (18, .iload 4, 2), (20, .invokevirtual 44, 3), (23, .istore 5, 2), (25, .iload_n 2, 1), (26, .aload_n 0, 1), (27, .iload_n 3, 1)] = true := by decide +kernel
theorem dX3_ofText_0 : decode cX3_ofText 0 = .ok (.iconst 0, 1) := kDec_at dA70_cX3_ofText 0 rfl
theorem dX3_ofText_1 : decode cX3_ofText 1 = .ok (.istore_n 2, 1) := kDec_at dA70_cX3_ofText 1 rfl
theorem dX3_ofText_2 : decode cX3_ofText 2 = .ok (.bipush 32, 2) := kDec_at dA70_cX3_ofText 2 rfl
theorem dX3_ofText_4 : decode cX3_ofText 4 = .ok (.istore_n 3, 1) := kDec_at dA70_cX3_ofText 3 rfl
theorem dX3_ofText_5 : decode cX3_ofText 5 = .ok (.iconst 0, 1) := kDec_at dA70_cX3_ofText 4 rfl
theorem dX3_ofText_6 : decode cX3_ofText 6 = .ok (.istore 4, 2) := kDec_at dA70_cX3_ofText 5 rfl
theorem dX3_ofText_8 : decode cX3_ofText 8 = .ok (.iload 4, 2) := kDec_at dA70_cX3_ofText 6 rfl
theorem dX3_ofText_10 : decode cX3_ofText 10 = .ok (.aload_n 1, 1) := kDec_at dA70_cX3_ofText 7 rfl
theorem dX3_ofText_11 : decode cX3_ofText 11 = .ok (.invokevirtual 39, 3) := kDec_at dA70_cX3_ofText 8 rfl
theorem dX3_ofText_14 : decode cX3_ofText 14 = .ok (.if_icmp .ge 30, 3) := kDec_at dA70_cX3_ofText 9 rfl
theorem dX3_ofText_44 : decode cX3_ofText 44 = .ok (.iload_n 2, 1) := kDec_at dA70_cX3_ofText 10 rfl
theorem dX3_ofText_45 : decode cX3_ofText 45 = .ok (.aload_n 0, 1) := kDec_at dA70_cX3_ofText 11 rfl
theorem dX3_ofText_46 : decode cX3_ofText 46 = .ok (.iload_n 3, 1) := kDec_at dA70_cX3_ofText 12 rfl
theorem dX3_ofText_47 : decode cX3_ofText 47 = .ok (.bipush 32, 2) := kDec_at dA70_cX3_ofText 13 rfl
theorem dX3_ofText_49 : decode cX3_ofText 49 = .ok (.invokevirtual 47, 3) := kDec_at dA70_cX3_ofText 14 rfl
theorem dX3_ofText_52 : decode cX3_ofText 52 = .ok (.iadd, 1) := kDec_at dA70_cX3_ofText 15 rfl
theorem dX3_ofText_53 : decode cX3_ofText 53 = .ok (.ireturn, 1) := kDec_at dA70_cX3_ofText 16 rfl
theorem dX3_ofText_17 : decode cX3_ofText 17 = .ok (.aload_n 1, 1) := kDec_at dA70_cX3_ofText 17 rfl
theorem dX3_ofText_18 : decode cX3_ofText 18 = .ok (.iload 4, 2) := kDec_at dA70_cX3_ofText 18 rfl
theorem dX3_ofText_20 : decode cX3_ofText 20 = .ok (.invokevirtual 44, 3) := kDec_at dA70_cX3_ofText 19 rfl
theorem dX3_ofText_23 : decode cX3_ofText 23 = .ok (.istore 5, 2) := kDec_at dA70_cX3_ofText 20 rfl
theorem dX3_ofText_25 : decode cX3_ofText 25 = .ok (.iload_n 2, 1) := kDec_at dA70_cX3_ofText 21 rfl
theorem dX3_ofText_26 : decode cX3_ofText 26 = .ok (.aload_n 0, 1) := kDec_at dA70_cX3_ofText 22 rfl
theorem dX3_ofText_27 : decode cX3_ofText 27 = .ok (.iload_n 3, 1) := kDec_at dA70_cX3_ofText 23 rfl
set_option maxRecDepth 20000 in
theorem ggX3_ofText_X5_length : GoodIn wsX3_ofText wsX5_length := goodIn_r _ [5, 6, 34, 35] rfl (by decide +kernel)
set_option maxRecDepth 20000 in
theorem gX3_ofText_X5_length : GoodIn wsX3_ofText (wsV RX3 39 RX5 yX5_length wsX5_length) := goodIn_app (goodIn_r _ [1, 2, 3, 4] rfl (by decide +kernel)) ggX3_ofText_X5_length
set_option maxRecDepth 20000 in
theorem ggX3_ofText_X3_of : GoodIn wsX3_ofText wsX3_of := goodIn_r _ [16, 17, 18, 19, 20, 21, 15, 22, 23, 24, 25, 26, 27, 28, 29, 30, 31, 32, 33, 36, 37, 38] rfl (by decide +kernel)
set_option maxRecDepth 20000 in
theorem gX3_ofText_X3_of : GoodIn wsX3_ofText (wsV RX3 47 RX3 yX3_of wsX3_of) := goodIn_app (goodIn_r _ [12, 13, 14, 15] rfl (by decide +kernel)) ggX3_ofText_X3_of
set_option maxRecDepth 20000 in
theorem ggX3_ofText_X5_get : GoodIn wsX3_ofText wsX5_get := goodIn_r _ [10, 6, 11, 34, 35] rfl (by decide +kernel)
set_option maxRecDepth 20000 in
theorem gX3_ofText_X5_get : GoodIn wsX3_ofText (wsV RX3 44 RX5 yX5_get wsX5_get) := goodIn_app (goodIn_r _ [7, 8, 9, 4] rfl (by decide +kernel)) ggX3_ofText_X5_get
set_option maxRecDepth 100000 in
theorem dA71_cX3_ofText : kDec cX3_ofText [(28, .iload 5, 2), (30, .invokevirtual 47, 3), (33, .iadd, 1), (34, .istore_n 2, 1), (35, .iload 5, 2), (37, .istore_n 3, 1), (38, .iinc 4 1, 3), (41, .goto (-33), 3)] = true := by decide +kernel
theorem dX3_ofText_28 : decode cX3_ofText 28 = .ok (.iload 5, 2) := kDec_at dA71_cX3_ofText 0 rfl
theorem dX3_ofText_30 : decode cX3_ofText 30 = .ok (.invokevirtual 47, 3) := kDec_at dA71_cX3_ofText 1 rfl
theorem dX3_ofText_33 : decode cX3_ofText 33 = .ok (.iadd, 1) := kDec_at dA71_cX3_ofText 2 rfl
theorem dX3_ofText_34 : decode cX3_ofText 34 = .ok (.istore_n 2, 1) := kDec_at dA71_cX3_ofText 3 rfl
theorem dX3_ofText_35 : decode cX3_ofText 35 = .ok (.iload 5, 2) := kDec_at dA71_cX3_ofText 4 rfl
theorem dX3_ofText_37 : decode cX3_ofText 37 = .ok (.istore_n 3, 1) := kDec_at dA71_cX3_ofText 5 rfl
theorem dX3_ofText_38 : decode cX3_ofText 38 = .ok (.iinc 4 1, 3) := kDec_at dA71_cX3_ofText 6 rfl
theorem dX3_ofText_41 : decode cX3_ofText 41 = .ok (.goto (-33), 3) := kDec_at dA71_cX3_ofText 7 rfl
set_option maxRecDepth 100000 in
theorem dA72_cX0_length : kDec cX0_length [(0, .aload_n 0, 1), (1, .getfield 22, 3), (4, .ireturn, 1)] = true := by decide +kernel
theorem dX0_length_0 : decode cX0_length 0 = .ok (.aload_n 0, 1) := kDec_at dA72_cX0_length 0 rfl
theorem dX0_length_1 : decode cX0_length 1 = .ok (.getfield 22, 3) := kDec_at dA72_cX0_length 1 rfl
theorem dX0_length_4 : decode cX0_length 4 = .ok (.ireturn, 1) := kDec_at dA72_cX0_length 2 rfl

end

/-! 28.books -/
section
set_option maxHeartbeats 40000000 in
set_option maxRecDepth 100000 in
theorem m_X4_length (l : Launch) (dC : Nat → ClassId) (dI : Nat → Nat → Nat) (cI cS : ClassId) (sz : Nat) (oH : Nat) (oP : Nat) (h1 : Nat) (h2 : Nat) (lH : Int32) (g_lH : 0 ≤ lH.toInt ∧ lH.toInt ≤ 6) : kMi l yX4_length wsX4_length ({ frames := 0, cells := 0, slots := 0, locals := 0 } : Room) [.ref oH] sz (dC, dI) vwCl [(cI, .int), (cS, .short)] [(oH, .inr (4, [.ref oP, .ref h1, .ref h2, .int lH]))] (fun _ => True) 0 0 (fun (A : Nat → Prop) (r : Int32) (hh9 : Heap) => kPD (dC, dI) vwCl A [(oH, .inr (4, [.ref oP, .ref h1, .ref h2, .int lH]))] hh9 ∧ (r = lH)) := by
  refine kMi_of (cc := cX4_length) (maxL := 1) (ret := (some .int)) (lv := [(0, .ref oH)]) (by decide +kernel) rfl rfl (Nat.le_of_ble_eq_true rfl) ?_
  intro p e s m below meth c A QQ ls hx hb hr hts hml hown hlocks hA hQQ hK hX hP hD hS hl
  have hown : s.vm.findClass RX4 = some m.cls := hown
  have hcf := k_cf hx hb hml hown hts
  have in_X4 : ∀ w ∈ wsX40, w ∈ wsX4_length := fun _ h => List.mem_cons_of_mem _ (List.mem_append_right _ (h))
  replace g_lH := hid g_lH
  refine lv_aload_n hx hb dX4_length_0 rfl (lv_at hl 0 rfl) ?_
  refine va_get (D := (dC, dI)) (ci := 4) (v := .int lH) (C := RX4) (T := TX4) (N := 4) hx hb hts in_X4 hown hK hP 0 rfl rfl 3 (by decide) (hts (.fieldLink RX4 22 "TextMender$Harms" "length" "I") (List.mem_of_getElem? (i := 1) rfl)) (fun _ h9 => h9) rfl dX4_length_1 ?_
  exact kl_i (v := lH) hQQ hx hb hr hlocks hS dX4_length_4 ⟨⟨hP, hD⟩, rfl⟩

set_option maxHeartbeats 40000000 in
set_option maxRecDepth 100000 in
theorem m_X4_empty (l : Launch) (dC : Nat → ClassId) (dI : Nat → Nat → Nat) (cI cS : ClassId) (sz : Nat) (oH : Nat) (oP : Nat) (h1 : Nat) (h2 : Nat) (lH : Int32) (g_lH : 0 ≤ lH.toInt ∧ lH.toInt ≤ 6) : kMv l yX4_empty wsX4_empty ({ frames := 0, cells := 0, slots := 0, locals := 0 } : Room) [.ref oH] sz (dC, dI) vwCl [(cI, .int), (cS, .short)] [(oH, .inr (4, [.ref oP, .ref h1, .ref h2, .int lH]))] (fun _ => True) 0 0 (fun (A : Nat → Prop) (hh9 : Heap) => ∃ (lH' : Int32), kPD (dC, dI) vwCl A [(oH, .inr (4, [.ref oP, .ref h1, .ref h2, .int lH']))] hh9 ∧ (0 ≤ lH'.toInt ∧ lH'.toInt ≤ 6) ∧ (lH' = 0)) := by
  refine kMv_of (cc := cX4_empty) (maxL := 1) (ret := none) (lv := [(0, .ref oH)]) (by decide +kernel) rfl rfl (Nat.le_of_ble_eq_true rfl) ?_
  intro p e s m below meth c A QQ ls hx hb hr hts hml hown hlocks hA hQQ hK hX hP hD hS hl
  have hown : s.vm.findClass RX4 = some m.cls := hown
  have hcf := k_cf hx hb hml hown hts
  have in_X4 : ∀ w ∈ wsX40, w ∈ wsX4_empty := fun _ h => List.mem_cons_of_mem _ (List.mem_append_right _ (h))
  replace g_lH := hid g_lH
  refine lv_aload_n hx hb dX4_empty_0 rfl (lv_at hl 0 rfl) ?_
  refine lv_iconst (v := 0) hx hb dX4_empty_1 (by decide) ?_
  refine va_put (D := (dC, dI)) (ci := 4) (v := .int 0) (ty := .int) (C := RX4) (T := TX4) (N := 4) hx hb hts in_X4 tyX4 tyX4_ok nmX4 hown hK hP hD hS 0 rfl rfl 3 (by decide) (hts (.fieldLink RX4 22 "TextMender$Harms" "length" "I") (List.mem_of_getElem? (i := 1) rfl)) (fun _ h9 => h9) rfl (by decide +kernel) rfl rfl (Nat.le_of_ble_eq_true rfl) dX4_empty_2 (kW (wn := [(oH, .inr (4, [.ref oP, .ref h1, .ref h2, .int 0]))]) rfl (fun H locs hPn hDn hSn => ?_))
  clear hP hD hS
  have hP := hPn
  have hD := hDn
  have hS := hSn
  clear hPn hDn hSn
  exact kl_v hQQ hx hb hr hlocks hS dX4_empty_5 ⟨0, ⟨hP, hD⟩, by decide, rfl⟩

set_option maxHeartbeats 40000000 in
set_option maxRecDepth 100000 in
theorem m_X4_takeOff (l : Launch) (dC : Nat → ClassId) (dI : Nat → Nat → Nat) (cI cS : ClassId) (sz : Nat) (oH : Nat) (nx : Nat) (nd : Nat) (oP : Nat) (h1 : Nat) (h2 : Nat) (oC : Nat) (nB : Nat) (aB : Nat) (ax : Nat) (ad : Nat) (o4 : Nat) (o5 : Nat) (a41 : Nat) (a42 : Nat) (a43 : Nat) (a51 : Nat) (a52 : Nat) (a53 : Nat) (lH : Int32) (fH1 : Nat → Int32) (fH2 : Nat → Int32) (ft : Int32) (lB : Int32) (fB : Nat → Int32) (lx : Int32) (fx : Nat → Int32) (ld : Int32) (fd : Nat → Int32) (l4 : Int32) (f41 : Nat → Int32) (f42 : Nat → Int32) (f43 : Nat → Int32) (l5 : Int32) (f51 : Nat → Int32) (f52 : Nat → Int32) (f53 : Nat → Int32) (h : Int32) (g_lH : 0 ≤ lH.toInt ∧ lH.toInt ≤ 6) (g_lB : 0 ≤ lB.toInt ∧ lB.toInt ≤ 2400) (g_lx : 0 ≤ lx.toInt ∧ lx.toInt ≤ 300) (g_ld : 0 ≤ ld.toInt ∧ ld.toInt ≤ 300) : kMi l yX4_takeOff wsX4_takeOff ({ frames := 5, cells := 0, slots := 0, locals := 124 } : Room) [.ref oH, .int h, .ref nx, .ref nd] sz (dC, dI) vwCl [(cI, .int), (cS, .short)] [(oH, .inr (4, [.ref oP, .ref h1, .ref h2, .int lH])), (h1, .inl (cI, 6, .inl fH1)), (h2, .inl (cI, 6, .inl fH2)), (oP, .inr (7, [.ref oC, .ref nB, .int ft])), (nB, .inr (5, [.ref aB, .int lB])), (aB, .inl (cI, 2400, .inl fB)), (nx, .inr (5, [.ref ax, .int lx])), (ax, .inl (cI, 300, .inl fx)), (nd, .inr (5, [.ref ad, .int ld])), (ad, .inl (cI, 300, .inl fd)), (oC, .inr (2, [.ref o4, .ref o5])), (o4, .inr (10, [.ref a41, .ref a42, .ref a43, .int l4])), (a41, .inl (cI, 256, .inl f41)), (a42, .inl (cI, 512, .inl f42)), (a43, .inl (cI, 512, .inl f43)), (o5, .inr (10, [.ref a51, .ref a52, .ref a53, .int l5])), (a51, .inl (cI, 256, .inl f51)), (a52, .inl (cI, 512, .inl f52)), (a53, .inl (cI, 512, .inl f53))] (va_Nw (.methodLinkNest RX2 52 yX11_isLetter "TextMender")) 0 0 (fun (A : Nat → Prop) (r : Int32) (hh9 : Heap) => ∃ (ft' : Int32) (lB' : Int32) (fB' : Nat → Int32) (ld' : Int32) (fd' : Nat → Int32), kPD (dC, dI) vwCl A [(oH, .inr (4, [.ref oP, .ref h1, .ref h2, .int lH])), (h1, .inl (cI, 6, .inl fH1)), (h2, .inl (cI, 6, .inl fH2)), (oP, .inr (7, [.ref oC, .ref nB, .int ft'])), (nB, .inr (5, [.ref aB, .int lB'])), (aB, .inl (cI, 2400, .inl fB')), (nx, .inr (5, [.ref ax, .int lx])), (ax, .inl (cI, 300, .inl fx)), (nd, .inr (5, [.ref ad, .int ld'])), (ad, .inl (cI, 300, .inl fd')), (oC, .inr (2, [.ref o4, .ref o5])), (o4, .inr (10, [.ref a41, .ref a42, .ref a43, .int l4])), (a41, .inl (cI, 256, .inl f41)), (a42, .inl (cI, 512, .inl f42)), (a43, .inl (cI, 512, .inl f43)), (o5, .inr (10, [.ref a51, .ref a52, .ref a53, .int l5])), (a51, .inl (cI, 256, .inl f51)), (a52, .inl (cI, 512, .inl f52)), (a53, .inl (cI, 512, .inl f53))] hh9 ∧ (0 ≤ lB'.toInt ∧ lB'.toInt ≤ 2400) ∧ (0 ≤ ld'.toInt ∧ ld'.toInt ≤ 300) ∧ (0 ≤ r.toInt ∧ r.toInt ≤ 1)) := by
  refine kMi_of (cc := cX4_takeOff) (maxL := 4) (ret := (some .boolean)) (lv := [(0, .ref oH), (1, .int h), (2, .ref nx), (3, .ref nd)]) (by decide +kernel) rfl rfl (Nat.le_of_ble_eq_true rfl) ?_
  intro p e s m below meth c A QQ ls hx hb hr hts hml hown hlocks hA hQQ hK hX hP hD hS hl
  have hown : s.vm.findClass RX4 = some m.cls := hown
  have hcf := k_cf hx hb hml hown hts
  have hN52 := hX
  have in_X4 : ∀ w ∈ wsX40, w ∈ wsX4_takeOff := fun _ h => List.mem_cons_of_mem _ (List.mem_append_left _ (List.mem_append_left _ (List.mem_append_left _ (List.mem_append_left _ (List.mem_append_right _ (h))))))
  replace g_lB := hid g_lB
  replace g_lx := hid g_lx
  replace g_ld := hid g_ld
  refine lv_iload_n hx hb dX4_takeOff_0 rfl (lv_at hl 1 rfl) ?_
  refine lv_if_lt (tgt := 40) hx hb dX4_takeOff_1 (by decide) (fun c_1 => ?_) (fun c_1 => ?_)
  · have tc_1 : h.toInt < 0 := v_lt c_1
    refine lv_iconst (v := 0) hx hb dX4_takeOff_40 (by decide) ?_
    exact kl_z (v := 0) hQQ hx hb hr hlocks hS dX4_takeOff_41 (rfl) ⟨ft, lB, fB, ld, fd, ⟨hP, hD⟩, g_lB, g_ld, by decide⟩
  · have tc_1 : 0 ≤ h.toInt := v_nlt c_1
    refine lv_iload_n hx hb dX4_takeOff_4 rfl (lv_at hl 1 rfl) ?_
    refine lv_aload_n hx hb dX4_takeOff_5 rfl (lv_at hl 0 rfl) ?_
    refine va_get (D := (dC, dI)) (ci := 4) (v := .int lH) (C := RX4) (T := TX4) (N := 4) hx hb hts in_X4 hown hK hP 0 rfl rfl 3 (by decide) (hts (.fieldLink RX4 22 "TextMender$Harms" "length" "I") (List.mem_of_getElem? (i := 1) rfl)) (fun _ h9 => h9) rfl dX4_takeOff_6 ?_
    refine lv_icmp_ge (tgt := 40) hx hb dX4_takeOff_9 (by decide) (fun c_2 => ?_) (fun c_2 => ?_)
    · have tc_2 : lH.toInt ≤ h.toInt := v_le c_2
      have rw2_0 := v_rng h
      refine lv_iconst (v := 0) hx hb dX4_takeOff_40 (by decide) ?_
      exact kl_z (v := 0) hQQ hx hb hr hlocks hS dX4_takeOff_41 (rfl) ⟨ft, lB, fB, ld, fd, ⟨hP, hD⟩, g_lB, g_ld, by decide⟩
    · have tc_2 : h.toInt < lH.toInt := v_nle c_2
      have rw2_0 := v_rng h
      refine lv_aload_n hx hb dX4_takeOff_12 rfl (lv_at hl 0 rfl) ?_
      refine va_get (D := (dC, dI)) (ci := 4) (v := .ref oP) (C := RX4) (T := TX4) (N := 4) hx hb hts in_X4 hown hK hP 0 rfl rfl 0 (by decide) (hts (.fieldLink RX4 18 "TextMender$Harms" "passage" "LTextMender$Passage;") (List.mem_of_getElem? (i := 2) rfl)) (fun _ h9 => h9) rfl dX4_takeOff_13 ?_
      refine lv_aload_n hx hb dX4_takeOff_16 rfl (lv_at hl 0 rfl) ?_
      refine va_get (D := (dC, dI)) (ci := 4) (v := .ref h2) (C := RX4) (T := TX4) (N := 4) hx hb hts in_X4 hown hK hP 0 rfl rfl 2 (by decide) (hts (.fieldLink RX4 15 "TextMender$Harms" "readIn" "[I") (List.mem_of_getElem? (i := 3) rfl)) (fun _ h9 => h9) rfl dX4_takeOff_17 ?_
      refine lv_iload_n hx hb dX4_takeOff_20 rfl (lv_at hl 1 rfl) ?_
      refine va_iald hx hb hK hP 2 0 rfl rfl (v_in (by omega)) dX4_takeOff_21 ?_
      refine lv_topi (fun x_3 ex_3 => ?_)
      refine lv_aload_n hx hb dX4_takeOff_22 rfl (lv_at hl 0 rfl) ?_
      refine va_get (D := (dC, dI)) (ci := 4) (v := .ref h1) (C := RX4) (T := TX4) (N := 4) hx hb hts in_X4 hown hK hP 0 rfl rfl 1 (by decide) (hts (.fieldLink RX4 9 "TextMender$Harms" "writtenIn" "[I") (List.mem_of_getElem? (i := 4) rfl)) (fun _ h9 => h9) rfl dX4_takeOff_23 ?_
      refine lv_iload_n hx hb dX4_takeOff_26 rfl (lv_at hl 1 rfl) ?_
      refine va_iald hx hb hK hP 1 0 rfl rfl (v_in (by omega)) dX4_takeOff_27 ?_
      refine lv_topi (fun x_4 ex_4 => ?_)
      refine lv_aload_n hx hb dX4_takeOff_28 rfl (lv_at hl 2 rfl) ?_
      refine lv_aload_n hx hb dX4_takeOff_29 rfl (lv_at hl 3 rfl) ?_
      refine kV_i (rest := []) (q0 := 0) (ci := 7) hcf (m_X7_pass l dC dI cI cS s.heap.size oP nx nd oC nB aB ax ad o4 o5 a41 a42 a43 a51 a52 a53 ft lB fB lx fx ld fd l4 f41 f42 f43 l5 f51 f52 f53 x_3 x_4 (g_lB) (g_lx) (g_ld)) kc_X7_pass gX4_takeOff_X7_pass rfl rfl rfl ⟨Nat.le_of_ble_eq_true rfl, Nat.le_of_ble_eq_true rfl⟩ (kX_1 hN52) hK hP hD hS hA [3, 4, 5, 6, 7, 8, 9, 10, 11, 12, 13, 14, 15, 16, 17, 18] [0, 1, 2] rfl (by decide +kernel) rfl rfl rfl hl rfl (Nat.le_of_ble_eq_true rfl) dX4_takeOff_30 ⟨Nat.le_of_ble_eq_true rfl, Nat.le_of_ble_eq_true rfl⟩ (fun r_5 H locs hB hJ hSn => ?_)
      obtain ⟨ft_5, lB_5, fB_5, ld_5, fd_5, ⟨hP1, hD1⟩, hf5_0, hf5_1, hf5_2⟩ := hB
      obtain ⟨hPn, hDn⟩ := hJ _ hP1 hD1 [(oH, .inr (4, [.ref oP, .ref h1, .ref h2, .int lH])), (h1, .inl (cI, 6, .inl fH1)), (h2, .inl (cI, 6, .inl fH2)), (oP, .inr (7, [.ref oC, .ref nB, .int ft_5])), (nB, .inr (5, [.ref aB, .int lB_5])), (aB, .inl (cI, 2400, .inl fB_5)), (nx, .inr (5, [.ref ax, .int lx])), (ax, .inl (cI, 300, .inl fx)), (nd, .inr (5, [.ref ad, .int ld_5])), (ad, .inl (cI, 300, .inl fd_5)), (oC, .inr (2, [.ref o4, .ref o5])), (o4, .inr (10, [.ref a41, .ref a42, .ref a43, .int l4])), (a41, .inl (cI, 256, .inl f41)), (a42, .inl (cI, 512, .inl f42)), (a43, .inl (cI, 512, .inl f43)), (o5, .inr (10, [.ref a51, .ref a52, .ref a53, .int l5])), (a51, .inl (cI, 256, .inl f51)), (a52, .inl (cI, 512, .inl f52)), (a53, .inl (cI, 512, .inl f53))] rfl
      clear hP hD hS hJ hP1 hD1
      have hP := hPn
      have hD := hDn
      have hS := hSn
      clear hPn hDn hSn
      refine lv_if_eq (tgt := 40) hx hb dX4_takeOff_33 (by decide) (fun c_6 => ?_) (fun c_6 => ?_)
      · have tc_6 : r_5.toInt = 0 := v_eq c_6
        refine lv_iconst (v := 0) hx hb dX4_takeOff_40 (by decide) ?_
        exact kl_z (v := 0) hQQ hx hb hr hlocks hS dX4_takeOff_41 (rfl) ⟨ft_5, lB_5, fB_5, ld_5, fd_5, ⟨hP, hD⟩, hf5_0, hf5_1, by decide⟩
      · have tc_6 : ¬ r_5.toInt = 0 := v_ne c_6
        refine lv_iconst (v := 1) hx hb dX4_takeOff_36 (by decide) ?_
        refine lv_goto (tgt := 41) hx hb dX4_takeOff_37 (by decide) ?_
        exact kl_z (v := 1) hQQ hx hb hr hlocks hS dX4_takeOff_41 (rfl) ⟨ft_5, lB_5, fB_5, ld_5, fd_5, ⟨hP, hD⟩, hf5_0, hf5_1, by decide⟩

set_option maxHeartbeats 40000000 in
set_option maxRecDepth 100000 in
theorem m_X3_length (l : Launch) (dC : Nat → ClassId) (dI : Nat → Nat → Nat) (cI cS : ClassId) (sz : Nat) (oK : Nat) (k1 : Nat) (k2 : Nat) (lK : Int32) (g_lK : 0 ≤ lK.toInt ∧ lK.toInt ≤ 300) : kMi l yX3_length wsX3_length ({ frames := 0, cells := 0, slots := 0, locals := 0 } : Room) [.ref oK] sz (dC, dI) vwCl [(cI, .int), (cS, .short)] [(oK, .inr (3, [.ref k1, .ref k2, .int lK]))] (fun _ => True) 0 0 (fun (A : Nat → Prop) (r : Int32) (hh9 : Heap) => kPD (dC, dI) vwCl A [(oK, .inr (3, [.ref k1, .ref k2, .int lK]))] hh9 ∧ (r = lK)) := by
  refine kMi_of (cc := cX3_length) (maxL := 1) (ret := (some .int)) (lv := [(0, .ref oK)]) (by decide +kernel) rfl rfl (Nat.le_of_ble_eq_true rfl) ?_
  intro p e s m below meth c A QQ ls hx hb hr hts hml hown hlocks hA hQQ hK hX hP hD hS hl
  have hown : s.vm.findClass RX3 = some m.cls := hown
  have hcf := k_cf hx hb hml hown hts
  have in_X3 : ∀ w ∈ wsX30, w ∈ wsX3_length := fun _ h => List.mem_cons_of_mem _ (List.mem_append_right _ (h))
  replace g_lK := hid g_lK
  refine lv_aload_n hx hb dX3_length_0 rfl (lv_at hl 0 rfl) ?_
  refine va_get (D := (dC, dI)) (ci := 3) (v := .int lK) (C := RX3) (T := TX3) (N := 3) hx hb hts in_X3 hown hK hP 0 rfl rfl 2 (by decide) (hts (.fieldLink RX3 24 "TextMender$Costs" "length" "I") (List.mem_of_getElem? (i := 1) rfl)) (fun _ h9 => h9) rfl dX3_length_1 ?_
  exact kl_i (v := lK) hQQ hx hb hr hlocks hS dX3_length_4 ⟨⟨hP, hD⟩, rfl⟩

set_option maxHeartbeats 40000000 in
set_option maxRecDepth 100000 in
theorem m_X3_pairOf (l : Launch) (dC : Nat → ClassId) (dI : Nat → Nat → Nat) (cI cS : ClassId) (sz : Nat) (x : Int32) (y : Int32)  : kMi l yX3_pairOf wsX3_pairOf ({ frames := 0, cells := 0, slots := 0, locals := 0 } : Room) [.int x, .int y] sz (dC, dI) vwCl [(cI, .int), (cS, .short)] [] (fun _ => True) 0 0 (fun (A : Nat → Prop) (r : Int32) (hh9 : Heap) => kPD (dC, dI) vwCl A [] hh9) := by
  refine kMi_of (cc := cX3_pairOf) (maxL := 2) (ret := (some .int)) (lv := [(0, .int x), (1, .int y)]) (by decide +kernel) rfl rfl (Nat.le_of_ble_eq_true rfl) ?_
  intro p e s m below meth c A QQ ls hx hb hr hts hml hown hlocks hA hQQ hK hX hP hD hS hl
  have hown : s.vm.findClass RX3 = some m.cls := hown
  have hcf := k_cf hx hb hml hown hts
  refine lv_iload_n hx hb dX3_pairOf_0 rfl (lv_at hl 0 rfl) ?_
  refine lv_bipush (v := 16) hx hb dX3_pairOf_1 (by decide) ?_
  refine lv_ishl hx hb dX3_pairOf_3 ?_
  refine lv_topi (fun x_1 ex_1 => ?_)
  refine lv_iload_n hx hb dX3_pairOf_4 rfl (lv_at hl 1 rfl) ?_
  refine lv_ior hx hb dX3_pairOf_5 ?_
  refine lv_topi (fun x_2 ex_2 => ?_)
  exact kl_i (v := x_2) hQQ hx hb hr hlocks hS dX3_pairOf_6 ⟨hP, hD⟩

set_option maxHeartbeats 40000000 in
set_option maxRecDepth 100000 in
theorem m_X3_sortOutside (l : Launch) (dC : Nat → ClassId) (dI : Nat → Nat → Nat) (cI cS : ClassId) (sz : Nat) (x : Int32)  : kMi l yX3_sortOutside wsX3_sortOutside ({ frames := 0, cells := 0, slots := 0, locals := 0 } : Room) [.int x] sz (dC, dI) vwCl [(cI, .int), (cS, .short)] [] (fun _ => True) 0 0 (fun (A : Nat → Prop) (r : Int32) (hh9 : Heap) => kPD (dC, dI) vwCl A [] hh9 ∧ (0 ≤ r.toInt ∧ r.toInt ≤ 7)) := by
  refine kMi_of (cc := cX3_sortOutside) (maxL := 1) (ret := (some .int)) (lv := [(0, .int x)]) (by decide +kernel) rfl rfl (Nat.le_of_ble_eq_true rfl) ?_
  intro p e s m below meth c A QQ ls hx hb hr hts hml hown hlocks hA hQQ hK hX hP hD hS hl
  have hown : s.vm.findClass RX3 = some m.cls := hown
  have hcf := k_cf hx hb hml hown hts
  refine lv_iload_n hx hb dX3_sortOutside_0 rfl (lv_at hl 0 rfl) ?_
  refine lv_bipush (v := 32) hx hb dX3_sortOutside_1 (by decide) ?_
  refine lv_icmp_ne (tgt := 8) hx hb dX3_sortOutside_3 (by decide) (fun c_1 => ?_) (fun c_1 => ?_)
  · have tc_1 : ¬ x.toInt = 32 := v_ne c_1
    refine lv_iload_n hx hb dX3_sortOutside_8 rfl (lv_at hl 0 rfl) ?_
    refine lv_sipush (v := 192) hx hb dX3_sortOutside_9 (by decide) ?_
    refine lv_icmp_lt (tgt := 43) hx hb dX3_sortOutside_12 (by decide) (fun c_2 => ?_) (fun c_2 => ?_)
    · have tc_2 : x.toInt < 192 := v_lt c_2
      refine lv_iload_n hx hb dX3_sortOutside_43 rfl (lv_at hl 0 rfl) ?_
      refine lv_sipush (v := 880) hx hb dX3_sortOutside_44 (by decide) ?_
      refine lv_icmp_lt (tgt := 62) hx hb dX3_sortOutside_47 (by decide) (fun c_3 => ?_) (fun c_3 => by exfalso; have tc_3 : 880 ≤ x.toInt := v_nlt c_3; omega)
      have tc_3 : x.toInt < 880 := v_lt c_3
      refine lv_iconst (v := 0) hx hb dX3_sortOutside_62 (by decide) ?_
      exact kl_i (v := 0) hQQ hx hb hr hlocks hS dX3_sortOutside_63 ⟨⟨hP, hD⟩, by decide⟩
    · have tc_2 : 192 ≤ x.toInt := v_nlt c_2
      refine lv_iload_n hx hb dX3_sortOutside_15 rfl (lv_at hl 0 rfl) ?_
      refine lv_sipush (v := 591) hx hb dX3_sortOutside_16 (by decide) ?_
      refine lv_icmp_gt (tgt := 43) hx hb dX3_sortOutside_19 (by decide) (fun c_4 => ?_) (fun c_4 => ?_)
      · have tc_4 : 591 < x.toInt := v_lt c_4
        refine lv_iload_n hx hb dX3_sortOutside_43 rfl (lv_at hl 0 rfl) ?_
        refine lv_sipush (v := 880) hx hb dX3_sortOutside_44 (by decide) ?_
        refine lv_icmp_lt (tgt := 62) hx hb dX3_sortOutside_47 (by decide) (fun c_5 => ?_) (fun c_5 => ?_)
        · have tc_5 : x.toInt < 880 := v_lt c_5
          refine lv_iconst (v := 0) hx hb dX3_sortOutside_62 (by decide) ?_
          exact kl_i (v := 0) hQQ hx hb hr hlocks hS dX3_sortOutside_63 ⟨⟨hP, hD⟩, by decide⟩
        · have tc_5 : 880 ≤ x.toInt := v_nlt c_5
          refine lv_iload_n hx hb dX3_sortOutside_50 rfl (lv_at hl 0 rfl) ?_
          refine lv_sipush (v := 1327) hx hb dX3_sortOutside_51 (by decide) ?_
          refine lv_icmp_gt (tgt := 62) hx hb dX3_sortOutside_54 (by decide) (fun c_6 => ?_) (fun c_6 => ?_)
          · have tc_6 : 1327 < x.toInt := v_lt c_6
            refine lv_iconst (v := 0) hx hb dX3_sortOutside_62 (by decide) ?_
            exact kl_i (v := 0) hQQ hx hb hr hlocks hS dX3_sortOutside_63 ⟨⟨hP, hD⟩, by decide⟩
          · have tc_6 : x.toInt ≤ 1327 := v_nlt c_6
            refine lv_bipush (v := 7) hx hb dX3_sortOutside_57 (by decide) ?_
            refine lv_goto (tgt := 63) hx hb dX3_sortOutside_59 (by decide) ?_
            exact kl_i (v := 7) hQQ hx hb hr hlocks hS dX3_sortOutside_63 ⟨⟨hP, hD⟩, by decide⟩
      · have tc_4 : x.toInt ≤ 591 := v_nlt c_4
        refine lv_iload_n hx hb dX3_sortOutside_22 rfl (lv_at hl 0 rfl) ?_
        refine lv_sipush (v := 215) hx hb dX3_sortOutside_23 (by decide) ?_
        refine lv_icmp_eq (tgt := 36) hx hb dX3_sortOutside_26 (by decide) (fun c_7 => ?_) (fun c_7 => ?_)
        · have tc_7 : x.toInt = 215 := v_eq c_7
          refine lv_iconst (v := 0) hx hb dX3_sortOutside_36 (by decide) ?_
          refine lv_goto (tgt := 42) hx hb dX3_sortOutside_37 (by decide) ?_
          exact kl_i (v := 0) hQQ hx hb hr hlocks hS dX3_sortOutside_42 ⟨⟨hP, hD⟩, by decide⟩
        · have tc_7 : ¬ x.toInt = 215 := v_ne c_7
          refine lv_iload_n hx hb dX3_sortOutside_29 rfl (lv_at hl 0 rfl) ?_
          refine lv_sipush (v := 247) hx hb dX3_sortOutside_30 (by decide) ?_
          refine lv_icmp_ne (tgt := 40) hx hb dX3_sortOutside_33 (by decide) (fun c_8 => ?_) (fun c_8 => ?_)
          · have tc_8 : ¬ x.toInt = 247 := v_ne c_8
            refine lv_bipush (v := 6) hx hb dX3_sortOutside_40 (by decide) ?_
            exact kl_i (v := 6) hQQ hx hb hr hlocks hS dX3_sortOutside_42 ⟨⟨hP, hD⟩, by decide⟩
          · have tc_8 : x.toInt = 247 := v_eq c_8
            refine lv_iconst (v := 0) hx hb dX3_sortOutside_36 (by decide) ?_
            refine lv_goto (tgt := 42) hx hb dX3_sortOutside_37 (by decide) ?_
            exact kl_i (v := 0) hQQ hx hb hr hlocks hS dX3_sortOutside_42 ⟨⟨hP, hD⟩, by decide⟩
  · have tc_1 : x.toInt = 32 := v_eq c_1
    refine lv_iconst (v := 4) hx hb dX3_sortOutside_6 (by decide) ?_
    exact kl_i (v := 4) hQQ hx hb hr hlocks hS dX3_sortOutside_7 ⟨⟨hP, hD⟩, by decide⟩

set_option maxHeartbeats 40000000 in
set_option maxRecDepth 100000 in
theorem m_X3_sortOf (l : Launch) (dC : Nat → ClassId) (dI : Nat → Nat → Nat) (cI cS : ClassId) (sz : Nat) (x : Int32)  : kMi l yX3_sortOf wsX3_sortOf ({ frames := 1, cells := 0, slots := 0, locals := 20 } : Room) [.int x] sz (dC, dI) vwCl [(cI, .int), (cS, .short)] [] (fun _ => True) 0 0 (fun (A : Nat → Prop) (r : Int32) (hh9 : Heap) => kPD (dC, dI) vwCl A [] hh9 ∧ (0 ≤ r.toInt ∧ r.toInt ≤ 7)) := by
  refine kMi_of (cc := cX3_sortOf) (maxL := 1) (ret := (some .int)) (lv := [(0, .int x)]) (by decide +kernel) rfl rfl (Nat.le_of_ble_eq_true rfl) ?_
  intro p e s m below meth c A QQ ls hx hb hr hts hml hown hlocks hA hQQ hK hX hP hD hS hl
  have hown : s.vm.findClass RX3 = some m.cls := hown
  have hcf := k_cf hx hb hml hown hts
  refine lv_iload_n hx hb dX3_sortOf_0 rfl (lv_at hl 0 rfl) ?_
  refine lv_bipush (v := 33) hx hb dX3_sortOf_1 (by decide) ?_
  refine lv_icmp_lt (tgt := 12) hx hb dX3_sortOf_3 (by decide) (fun c_1 => ?_) (fun c_1 => ?_)
  · have tc_1 : x.toInt < 33 := v_lt c_1
    refine lv_iload_n hx hb dX3_sortOf_12 rfl (lv_at hl 0 rfl) ?_
    refine kS_i (rest := []) hcf (m_X3_sortOutside l dC dI cI cS s.heap.size x ) kc_X3_sortOutside gX3_sortOf_X3_sortOutside rfl rfl ⟨Nat.le_of_ble_eq_true rfl, Nat.le_of_ble_eq_true rfl⟩ kX_t hK hP hD hS hA [] [] rfl (by decide +kernel) rfl hl rfl (Nat.le_of_ble_eq_true rfl) dX3_sortOf_13 ⟨Nat.le_of_ble_eq_true rfl, Nat.le_of_ble_eq_true rfl⟩ (fun r_2 H locs hB hJ hSn => ?_)
    obtain ⟨⟨hP1, hD1⟩, hf2_0⟩ := hB
    obtain ⟨hPn, hDn⟩ := hJ _ hP1 hD1 [] rfl
    clear hP hD hS hJ hP1 hD1
    have hP := hPn
    have hD := hDn
    have hS := hSn
    clear hPn hDn hSn
    exact kl_i (v := r_2) hQQ hx hb hr hlocks hS dX3_sortOf_16 ⟨⟨hP, hD⟩, hf2_0⟩
  · have tc_1 : 33 ≤ x.toInt := v_nlt c_1
    refine lv_iload_n hx hb dX3_sortOf_6 rfl (lv_at hl 0 rfl) ?_
    refine lv_bipush (v := 126) hx hb dX3_sortOf_7 (by decide) ?_
    refine lv_icmp_le (tgt := 17) hx hb dX3_sortOf_9 (by decide) (fun c_3 => ?_) (fun c_3 => ?_)
    · have tc_3 : x.toInt ≤ 126 := v_le c_3
      refine lv_iload_n hx hb dX3_sortOf_17 rfl (lv_at hl 0 rfl) ?_
      refine lv_bipush (v := 97) hx hb dX3_sortOf_18 (by decide) ?_
      refine lv_icmp_lt (tgt := 31) hx hb dX3_sortOf_20 (by decide) (fun c_4 => ?_) (fun c_4 => ?_)
      · have tc_4 : x.toInt < 97 := v_lt c_4
        refine lv_iload_n hx hb dX3_sortOf_31 rfl (lv_at hl 0 rfl) ?_
        refine lv_bipush (v := 65) hx hb dX3_sortOf_32 (by decide) ?_
        refine lv_icmp_lt (tgt := 45) hx hb dX3_sortOf_34 (by decide) (fun c_5 => ?_) (fun c_5 => ?_)
        · have tc_5 : x.toInt < 65 := v_lt c_5
          refine lv_iload_n hx hb dX3_sortOf_45 rfl (lv_at hl 0 rfl) ?_
          refine lv_bipush (v := 48) hx hb dX3_sortOf_46 (by decide) ?_
          refine lv_icmp_lt (tgt := 61) hx hb dX3_sortOf_48 (by decide) (fun c_6 => ?_) (fun c_6 => ?_)
          · have tc_6 : x.toInt < 48 := v_lt c_6
            refine lv_iconst (v := 5) hx hb dX3_sortOf_61 (by decide) ?_
            exact kl_i (v := 5) hQQ hx hb hr hlocks hS dX3_sortOf_62 ⟨⟨hP, hD⟩, by decide⟩
          · have tc_6 : 48 ≤ x.toInt := v_nlt c_6
            refine lv_iload_n hx hb dX3_sortOf_51 rfl (lv_at hl 0 rfl) ?_
            refine lv_bipush (v := 57) hx hb dX3_sortOf_52 (by decide) ?_
            refine lv_icmp_gt (tgt := 61) hx hb dX3_sortOf_54 (by decide) (fun c_7 => ?_) (fun c_7 => ?_)
            · have tc_7 : 57 < x.toInt := v_lt c_7
              refine lv_iconst (v := 5) hx hb dX3_sortOf_61 (by decide) ?_
              exact kl_i (v := 5) hQQ hx hb hr hlocks hS dX3_sortOf_62 ⟨⟨hP, hD⟩, by decide⟩
            · have tc_7 : x.toInt ≤ 57 := v_nlt c_7
              refine lv_iconst (v := 3) hx hb dX3_sortOf_57 (by decide) ?_
              refine lv_goto (tgt := 62) hx hb dX3_sortOf_58 (by decide) ?_
              exact kl_i (v := 3) hQQ hx hb hr hlocks hS dX3_sortOf_62 ⟨⟨hP, hD⟩, by decide⟩
        · have tc_5 : 65 ≤ x.toInt := v_nlt c_5
          refine lv_iload_n hx hb dX3_sortOf_37 rfl (lv_at hl 0 rfl) ?_
          refine lv_bipush (v := 90) hx hb dX3_sortOf_38 (by decide) ?_
          refine lv_icmp_gt (tgt := 45) hx hb dX3_sortOf_40 (by decide) (fun c_8 => ?_) (fun c_8 => ?_)
          · have tc_8 : 90 < x.toInt := v_lt c_8
            refine lv_iload_n hx hb dX3_sortOf_45 rfl (lv_at hl 0 rfl) ?_
            refine lv_bipush (v := 48) hx hb dX3_sortOf_46 (by decide) ?_
            refine lv_icmp_lt (tgt := 61) hx hb dX3_sortOf_48 (by decide) (fun c_9 => by exfalso; have tc_9 : x.toInt < 48 := v_lt c_9; omega) (fun c_9 => ?_)
            have tc_9 : 48 ≤ x.toInt := v_nlt c_9
            refine lv_iload_n hx hb dX3_sortOf_51 rfl (lv_at hl 0 rfl) ?_
            refine lv_bipush (v := 57) hx hb dX3_sortOf_52 (by decide) ?_
            refine lv_icmp_gt (tgt := 61) hx hb dX3_sortOf_54 (by decide) (fun c_10 => ?_) (fun c_10 => by exfalso; have tc_10 : x.toInt ≤ 57 := v_nlt c_10; omega)
            have tc_10 : 57 < x.toInt := v_lt c_10
            refine lv_iconst (v := 5) hx hb dX3_sortOf_61 (by decide) ?_
            exact kl_i (v := 5) hQQ hx hb hr hlocks hS dX3_sortOf_62 ⟨⟨hP, hD⟩, by decide⟩
          · have tc_8 : x.toInt ≤ 90 := v_nlt c_8
            refine lv_iconst (v := 2) hx hb dX3_sortOf_43 (by decide) ?_
            exact kl_i (v := 2) hQQ hx hb hr hlocks hS dX3_sortOf_44 ⟨⟨hP, hD⟩, by decide⟩
      · have tc_4 : 97 ≤ x.toInt := v_nlt c_4
        refine lv_iload_n hx hb dX3_sortOf_23 rfl (lv_at hl 0 rfl) ?_
        refine lv_bipush (v := 122) hx hb dX3_sortOf_24 (by decide) ?_
        refine lv_icmp_gt (tgt := 31) hx hb dX3_sortOf_26 (by decide) (fun c_11 => ?_) (fun c_11 => ?_)
        · have tc_11 : 122 < x.toInt := v_lt c_11
          refine lv_iload_n hx hb dX3_sortOf_31 rfl (lv_at hl 0 rfl) ?_
          refine lv_bipush (v := 65) hx hb dX3_sortOf_32 (by decide) ?_
          refine lv_icmp_lt (tgt := 45) hx hb dX3_sortOf_34 (by decide) (fun c_12 => by exfalso; have tc_12 : x.toInt < 65 := v_lt c_12; omega) (fun c_12 => ?_)
          have tc_12 : 65 ≤ x.toInt := v_nlt c_12
          refine lv_iload_n hx hb dX3_sortOf_37 rfl (lv_at hl 0 rfl) ?_
          refine lv_bipush (v := 90) hx hb dX3_sortOf_38 (by decide) ?_
          refine lv_icmp_gt (tgt := 45) hx hb dX3_sortOf_40 (by decide) (fun c_13 => ?_) (fun c_13 => by exfalso; have tc_13 : x.toInt ≤ 90 := v_nlt c_13; omega)
          have tc_13 : 90 < x.toInt := v_lt c_13
          refine lv_iload_n hx hb dX3_sortOf_45 rfl (lv_at hl 0 rfl) ?_
          refine lv_bipush (v := 48) hx hb dX3_sortOf_46 (by decide) ?_
          refine lv_icmp_lt (tgt := 61) hx hb dX3_sortOf_48 (by decide) (fun c_14 => by exfalso; have tc_14 : x.toInt < 48 := v_lt c_14; omega) (fun c_14 => ?_)
          have tc_14 : 48 ≤ x.toInt := v_nlt c_14
          refine lv_iload_n hx hb dX3_sortOf_51 rfl (lv_at hl 0 rfl) ?_
          refine lv_bipush (v := 57) hx hb dX3_sortOf_52 (by decide) ?_
          refine lv_icmp_gt (tgt := 61) hx hb dX3_sortOf_54 (by decide) (fun c_15 => ?_) (fun c_15 => by exfalso; have tc_15 : x.toInt ≤ 57 := v_nlt c_15; omega)
          have tc_15 : 57 < x.toInt := v_lt c_15
          refine lv_iconst (v := 5) hx hb dX3_sortOf_61 (by decide) ?_
          exact kl_i (v := 5) hQQ hx hb hr hlocks hS dX3_sortOf_62 ⟨⟨hP, hD⟩, by decide⟩
        · have tc_11 : x.toInt ≤ 122 := v_nlt c_11
          refine lv_iconst (v := 1) hx hb dX3_sortOf_29 (by decide) ?_
          exact kl_i (v := 1) hQQ hx hb hr hlocks hS dX3_sortOf_30 ⟨⟨hP, hD⟩, by decide⟩
    · have tc_3 : 126 < x.toInt := v_nle c_3
      refine lv_iload_n hx hb dX3_sortOf_12 rfl (lv_at hl 0 rfl) ?_
      refine kS_i (rest := []) hcf (m_X3_sortOutside l dC dI cI cS s.heap.size x ) kc_X3_sortOutside gX3_sortOf_X3_sortOutside rfl rfl ⟨Nat.le_of_ble_eq_true rfl, Nat.le_of_ble_eq_true rfl⟩ kX_t hK hP hD hS hA [] [] rfl (by decide +kernel) rfl hl rfl (Nat.le_of_ble_eq_true rfl) dX3_sortOf_13 ⟨Nat.le_of_ble_eq_true rfl, Nat.le_of_ble_eq_true rfl⟩ (fun r_16 H locs hB hJ hSn => ?_)
      obtain ⟨⟨hP1, hD1⟩, hf16_0⟩ := hB
      obtain ⟨hPn, hDn⟩ := hJ _ hP1 hD1 [] rfl
      clear hP hD hS hJ hP1 hD1
      have hP := hPn
      have hD := hDn
      have hS := hSn
      clear hPn hDn hSn
      exact kl_i (v := r_16) hQQ hx hb hr hlocks hS dX3_sortOf_16 ⟨⟨hP, hD⟩, hf16_0⟩

set_option maxHeartbeats 40000000 in
set_option maxRecDepth 100000 in
theorem m_X3_placeFor (l : Launch) (dC : Nat → ClassId) (dI : Nat → Nat → Nat) (cI cS : ClassId) (sz : Nat) (oK : Nat) (k1 : Nat) (k2 : Nat) (lK : Int32) (fK1 : Nat → Int32) (fK2 : Nat → Int32) (x : Int32) (y : Int32) (g_lK : 0 ≤ lK.toInt ∧ lK.toInt ≤ 300) : kMi l yX3_placeFor wsX3_placeFor ({ frames := 1, cells := 0, slots := 0, locals := 21 } : Room) [.ref oK, .int x, .int y] sz (dC, dI) vwCl [(cI, .int), (cS, .short)] [(oK, .inr (3, [.ref k1, .ref k2, .int lK])), (k1, .inl (cI, 1024, .inl fK1)), (k2, .inl (cI, 1024, .inl fK2))] (fun _ => True) 0 0 (fun (A : Nat → Prop) (r : Int32) (hh9 : Heap) => kPD (dC, dI) vwCl A [(oK, .inr (3, [.ref k1, .ref k2, .int lK])), (k1, .inl (cI, 1024, .inl fK1)), (k2, .inl (cI, 1024, .inl fK2))] hh9 ∧ (-1 ≤ r.toInt ∧ r.toInt ≤ 1023)) := by
  refine kMi_of (cc := cX3_placeFor) (maxL := 7) (ret := (some .int)) (lv := [(0, .ref oK), (1, .int x), (2, .int y)]) (by decide +kernel) rfl rfl (Nat.le_of_ble_eq_true rfl) ?_
  intro p e s m below meth c A QQ ls hx hb hr hts hml hown hlocks hA hQQ hK hX hP hD hS hl
  have hown : s.vm.findClass RX3 = some m.cls := hown
  have hcf := k_cf hx hb hml hown hts
  have in_X3 : ∀ w ∈ wsX30, w ∈ wsX3_placeFor := fun _ h => List.mem_cons_of_mem _ (List.mem_append_right _ (h))
  replace g_lK := hid g_lK
  refine lv_iload_n hx hb dX3_placeFor_0 rfl (lv_at hl 1 rfl) ?_
  refine lv_iload_n hx hb dX3_placeFor_1 rfl (lv_at hl 2 rfl) ?_
  refine kS_i (rest := []) hcf (m_X3_pairOf l dC dI cI cS s.heap.size x y ) kc_X3_pairOf gX3_placeFor_X3_pairOf rfl rfl ⟨Nat.le_of_ble_eq_true rfl, Nat.le_of_ble_eq_true rfl⟩ kX_t hK hP hD hS hA [] [0, 1, 2] rfl (by decide +kernel) rfl hl rfl (Nat.le_of_ble_eq_true rfl) dX3_placeFor_2 ⟨Nat.le_of_ble_eq_true rfl, Nat.le_of_ble_eq_true rfl⟩ (fun r_1 H locs hB hJ hSn => ?_)
  obtain ⟨hP1, hD1⟩ := hB
  obtain ⟨hPn, hDn⟩ := hJ _ hP1 hD1 [(oK, .inr (3, [.ref k1, .ref k2, .int lK])), (k1, .inl (cI, 1024, .inl fK1)), (k2, .inl (cI, 1024, .inl fK2))] rfl
  clear hP hD hS hJ hP1 hD1
  have hP := hPn
  have hD := hDn
  have hS := hSn
  clear hPn hDn hSn
  refine lv_istore_n (lv' := [(3, .int r_1), (0, .ref oK), (1, .int x), (2, .int y)]) hx hb dX3_placeFor_5 rfl hl (by decide) rfl (fun ls hl => ?_)
  refine lv_iload_n hx hb dX3_placeFor_6 rfl (lv_at hl 0 rfl) ?_
  refine lv_ldc hx hb hown (hts (.constant RX3 53 (-1640531535)) (List.mem_of_getElem? (i := 1) rfl)) dX3_placeFor_7 ?_
  refine lv_imul hx hb dX3_placeFor_9 ?_
  refine lv_topi (fun x_2 ex_2 => ?_)
  have rv2_0 := v_rng r_1
  refine lv_bipush (v := 22) hx hb dX3_placeFor_10 (by decide) ?_
  obtain ⟨x_3, ex_3⟩ : ∃ v : Int32, v = ((x_2 : Int32).toUInt32 >>> ((22 : Int32).toUInt32 &&& Int32.toUInt32 31)).toInt32 := ⟨_, rfl⟩
  refine lv_iushr (v := x_3) hx hb dX3_placeFor_12 ex_3.symm ?_
  have tx_3 : 0 ≤ x_3.toInt ∧ x_3.toInt < 1024 := v_ushr 22 ex_3 (by decide) (by decide) (by decide)
  refine lv_istore (lv' := [(4, .int x_3), (3, .int r_1), (0, .ref oK), (1, .int x), (2, .int y)]) hx hb dX3_placeFor_13 hl (by decide) rfl (fun ls hl => ?_)
  refine lv_iconst (v := 0) hx hb dX3_placeFor_15 (by decide) ?_
  refine lv_istore (lv' := [(5, .int 0), (4, .int x_3), (3, .int r_1), (0, .ref oK), (1, .int x), (2, .int y)]) hx hb dX3_placeFor_16 hl (by decide) rfl (fun ls hl => ?_)
  have LOOP_18 : ∀ (k_18 : Nat) (k : Int32) (H : Heap) (locs : List Loc) (ls : Array Slot), MSd (1024 - k.toInt : Int) k_18 → (0 ≤ k.toInt ∧ k.toInt ≤ 1024) → va_P (dC, dI) vwCl [(oK, .inr (3, [.ref k1, .ref k2, .int lK])), (k1, .inl (cI, 1024, .inl fK1)), (k2, .inl (cI, 1024, .inl fK2))] H → va_D A [(oK, .inr (3, [.ref k1, .ref k2, .int lK])), (k1, .inl (cI, 1024, .inl fK1)), (k2, .inl (cI, 1024, .inl fK2))] → va_S A s.heap H locs → lv_has ls 7 [(5, .int k), (4, .int x_3), (3, .int r_1), (0, .ref oK), (1, .int x), (2, .int y)] → W p l e (headSpec wsX3_placeFor ({ frames := 1, cells := 0, slots := 0, locals := 21 } : Room)).room s m ([.ref oK, .int x, .int y] : List Value).toArray below meth c H locs 0 0 (MQ below QQ ([.ref oK, .int x, .int y] : List Value).toArray s 0 0 A) (F0 m 18 ls []) := by
    clear hP hD hS hl
    try (clear rv2_0)
    intro k_18
    induction k_18 with
    | zero =>
      intro k H locs ls hm_18 g_k hP hD hS hl
      exact ms_0 hm_18
    | succ k_18 ih_18 =>
      intro k H locs ls hm_18 g_k hP hD hS hl
      refine lv_iload hx hb dX3_placeFor_18 (lv_at hl 0 rfl) ?_
      refine lv_sipush (v := 1024) hx hb dX3_placeFor_20 (by decide) ?_
      refine lv_icmp_ge (tgt := 68) hx hb dX3_placeFor_23 (by decide) (fun c_4 => ?_) (fun c_4 => ?_)
      · have tc_4 : 1024 ≤ k.toInt := v_le c_4
        refine lv_iconst (v := (-1)) hx hb dX3_placeFor_68 (by decide) ?_
        exact kl_i (v := (-1)) hQQ hx hb hr hlocks hS dX3_placeFor_69 ⟨⟨hP, hD⟩, by decide⟩
      · have tc_4 : k.toInt < 1024 := v_nle c_4
        refine lv_iload hx hb dX3_placeFor_26 (lv_at hl 1 rfl) ?_
        refine lv_iload hx hb dX3_placeFor_28 (lv_at hl 0 rfl) ?_
        refine lv_iadd hx hb dX3_placeFor_30 ?_
        refine lv_topi (fun x_5 ex_5 => ?_)
        have tx_5 : x_5.toInt = x_3.toInt + k.toInt := v_add ex_5 (by show -2147483648 ≤ x_3.toInt + k.toInt; omega) (by show x_3.toInt + k.toInt < 2147483648; omega)
        refine lv_sipush (v := 1023) hx hb dX3_placeFor_31 (by decide) ?_
        refine lv_iand hx hb dX3_placeFor_34 ?_
        refine lv_topi (fun x_6 ex_6 => ?_)
        have tx_6 : 0 ≤ x_6.toInt ∧ x_6.toInt < 1024 := v_and 10 ex_6 (by decide) (by decide)
        refine lv_istore (lv' := [(6, .int x_6), (5, .int k), (4, .int x_3), (3, .int r_1), (0, .ref oK), (1, .int x), (2, .int y)]) hx hb dX3_placeFor_35 hl (by decide) rfl (fun ls hl => ?_)
        refine lv_aload_n hx hb dX3_placeFor_37 rfl (lv_at hl 4 rfl) ?_
        refine va_get (D := (dC, dI)) (ci := 3) (v := .ref k2) (C := RX3) (T := TX3) (N := 3) hx hb hts in_X3 hown hK hP 0 rfl rfl 1 (by decide) (hts (.fieldLink RX3 15 "TextMender$Costs" "value" "[I") (List.mem_of_getElem? (i := 2) rfl)) (fun _ h9 => h9) rfl dX3_placeFor_38 ?_
        refine lv_iload hx hb dX3_placeFor_41 (lv_at hl 0 rfl) ?_
        refine va_iald hx hb hK hP 2 0 rfl rfl (v_in (by omega)) dX3_placeFor_43 ?_
        refine lv_topi (fun x_7 ex_7 => ?_)
        refine lv_iconst (v := (-1)) hx hb dX3_placeFor_44 (by decide) ?_
        refine lv_icmp_eq (tgt := 59) hx hb dX3_placeFor_45 (by decide) (fun c_8 => ?_) (fun c_8 => ?_)
        · have tc_8 : x_7.toInt = (-1) := v_eq c_8
          refine lv_iload hx hb dX3_placeFor_59 (lv_at hl 0 rfl) ?_
          exact kl_i (v := x_6) hQQ hx hb hr hlocks hS dX3_placeFor_61 ⟨⟨hP, hD⟩, by omega⟩
        · have tc_8 : ¬ x_7.toInt = (-1) := v_ne c_8
          refine lv_aload_n hx hb dX3_placeFor_48 rfl (lv_at hl 4 rfl) ?_
          refine va_get (D := (dC, dI)) (ci := 3) (v := .ref k1) (C := RX3) (T := TX3) (N := 3) hx hb hts in_X3 hown hK hP 0 rfl rfl 0 (by decide) (hts (.fieldLink RX3 11 "TextMender$Costs" "pair" "[I") (List.mem_of_getElem? (i := 3) rfl)) (fun _ h9 => h9) rfl dX3_placeFor_49 ?_
          refine lv_iload hx hb dX3_placeFor_52 (lv_at hl 0 rfl) ?_
          refine va_iald hx hb hK hP 1 0 rfl rfl (v_in (by omega)) dX3_placeFor_54 ?_
          refine lv_topi (fun x_9 ex_9 => ?_)
          refine lv_iload_n hx hb dX3_placeFor_55 rfl (lv_at hl 3 rfl) ?_
          refine lv_icmp_ne (tgt := 62) hx hb dX3_placeFor_56 (by decide) (fun c_10 => ?_) (fun c_10 => ?_)
          · have tc_10 : ¬ x_9.toInt = r_1.toInt := v_ne c_10
            have rw10_0 := v_rng x_9
            obtain ⟨x_11, ex_11⟩ : ∃ y : Int32, y = k + 1 := ⟨_, rfl⟩
            have tx_11 : x_11.toInt = k.toInt + 1 := v_addR (l2 := 1) (h2 := 1) ex_11 g_k (by decide) (by decide) (by decide)
            refine lv_iinc (v := x_11) (lv' := [(5, .int x_11), (6, .int x_6), (4, .int x_3), (3, .int r_1), (0, .ref oK), (1, .int x), (2, .int y)]) hx hb dX3_placeFor_62 hl (k := 1) rfl (by rw [ex_11]; rfl) (by decide) rfl (fun ls hl => ?_)
            refine lv_goto (tgt := 18) hx hb dX3_placeFor_65 (by decide) ?_
            exact ih_18 x_11 _ _ _ (ms_lt hm_18 (by show ((1024 - x_11.toInt : Int)) < 1024 - k.toInt; omega) (by show (0 : Int) < 1024 - k.toInt; omega)) (by show 0 ≤ x_11.toInt ∧ x_11.toInt ≤ 1024; omega) hP hD hS (lv_sub hl [0, 2, 3, 4, 5, 6] rfl)
          · have tc_10 : x_9.toInt = r_1.toInt := v_eq c_10
            have rw10_0 := v_rng x_9
            refine lv_iload hx hb dX3_placeFor_59 (lv_at hl 0 rfl) ?_
            exact kl_i (v := x_6) hQQ hx hb hr hlocks hS dX3_placeFor_61 ⟨⟨hP, hD⟩, by omega⟩
  exact LOOP_18 _ 0 _ _ _ (ms_s _) (by decide) hP hD hS (lv_sub hl [0, 1, 2, 3, 4, 5] rfl)

set_option maxHeartbeats 40000000 in
set_option maxRecDepth 100000 in
theorem m_X3_of (l : Launch) (dC : Nat → ClassId) (dI : Nat → Nat → Nat) (cI cS : ClassId) (sz : Nat) (oK : Nat) (k1 : Nat) (k2 : Nat) (lK : Int32) (fK1 : Nat → Int32) (fK2 : Nat → Int32) (x : Int32) (y : Int32) (g_lK : 0 ≤ lK.toInt ∧ lK.toInt ≤ 300) : kMi l yX3_of wsX3_of ({ frames := 2, cells := 0, slots := 0, locals := 47 } : Room) [.ref oK, .int x, .int y] sz (dC, dI) vwCl [(cI, .int), (cS, .short)] [(oK, .inr (3, [.ref k1, .ref k2, .int lK])), (k1, .inl (cI, 1024, .inl fK1)), (k2, .inl (cI, 1024, .inl fK2))] (fun _ => True) 0 0 (fun (A : Nat → Prop) (r : Int32) (hh9 : Heap) => kPD (dC, dI) vwCl A [(oK, .inr (3, [.ref k1, .ref k2, .int lK])), (k1, .inl (cI, 1024, .inl fK1)), (k2, .inl (cI, 1024, .inl fK2))] hh9) := by
  refine kMi_of (cc := cX3_of) (maxL := 7) (ret := (some .int)) (lv := [(0, .ref oK), (1, .int x), (2, .int y)]) (by decide +kernel) rfl rfl (Nat.le_of_ble_eq_true rfl) ?_
  intro p e s m below meth c A QQ ls hx hb hr hts hml hown hlocks hA hQQ hK hX hP hD hS hl
  have hown : s.vm.findClass RX3 = some m.cls := hown
  have hcf := k_cf hx hb hml hown hts
  have in_X3 : ∀ w ∈ wsX30, w ∈ wsX3_of := fun _ h => List.mem_cons_of_mem _ (List.mem_append_right _ (h))
  replace g_lK := hid g_lK
  refine lv_aload_n hx hb dX3_of_0 rfl (lv_at hl 0 rfl) ?_
  refine va_get (D := (dC, dI)) (ci := 3) (v := .int lK) (C := RX3) (T := TX3) (N := 3) hx hb hts in_X3 hown hK hP 0 rfl rfl 2 (by decide) (hts (.fieldLink RX3 24 "TextMender$Costs" "length" "I") (List.mem_of_getElem? (i := 1) rfl)) (fun _ h9 => h9) rfl dX3_of_1 ?_
  refine lv_if_ne (tgt := 11) hx hb dX3_of_4 (by decide) (fun c_1 => ?_) (fun c_1 => ?_)
  · have tc_1 : ¬ lK.toInt = 0 := v_ne c_1
    refine lv_aload_n hx hb dX3_of_11 rfl (lv_at hl 0 rfl) ?_
    refine lv_iload_n hx hb dX3_of_12 rfl (lv_at hl 1 rfl) ?_
    refine lv_iload_n hx hb dX3_of_13 rfl (lv_at hl 2 rfl) ?_
    refine kV_i (rest := []) (q0 := 0) (ci := 3) hcf (m_X3_placeFor l dC dI cI cS s.heap.size oK k1 k2 lK fK1 fK2 x y (g_lK)) kc_X3_placeFor gX3_of_X3_placeFor rfl rfl rfl ⟨Nat.le_of_ble_eq_true rfl, Nat.le_of_ble_eq_true rfl⟩ kX_t hK hP hD hS hA [0, 1, 2] [] rfl (by decide +kernel) rfl rfl rfl hl rfl (Nat.le_of_ble_eq_true rfl) dX3_of_14 ⟨Nat.le_of_ble_eq_true rfl, Nat.le_of_ble_eq_true rfl⟩ (fun r_2 H locs hB hJ hSn => ?_)
    obtain ⟨⟨hP1, hD1⟩, hf2_0⟩ := hB
    obtain ⟨hPn, hDn⟩ := hJ _ hP1 hD1 [(oK, .inr (3, [.ref k1, .ref k2, .int lK])), (k1, .inl (cI, 1024, .inl fK1)), (k2, .inl (cI, 1024, .inl fK2))] rfl
    clear hP hD hS hJ hP1 hD1
    have hP := hPn
    have hD := hDn
    have hS := hSn
    clear hPn hDn hSn
    refine lv_istore_n (lv' := [(3, .int r_2), (0, .ref oK), (1, .int x), (2, .int y)]) hx hb dX3_of_17 rfl hl (by decide) rfl (fun ls hl => ?_)
    refine lv_iload_n hx hb dX3_of_18 rfl (lv_at hl 0 rfl) ?_
    refine lv_iconst (v := (-1)) hx hb dX3_of_19 (by decide) ?_
    refine lv_icmp_eq (tgt := 40) hx hb dX3_of_20 (by decide) (fun c_3 => ?_) (fun c_3 => ?_)
    · have tc_3 : r_2.toInt = (-1) := v_eq c_3
      refine lv_iload_n hx hb dX3_of_40 rfl (lv_at hl 2 rfl) ?_
      refine kS_i (rest := []) hcf (m_X3_sortOf l dC dI cI cS H.size x ) kc_X3_sortOf gX3_of_X3_sortOf rfl rfl ⟨Nat.le_of_ble_eq_true rfl, Nat.le_of_ble_eq_true rfl⟩ kX_t hK hP hD hS hA [] [0, 1, 2] rfl (by decide +kernel) rfl hl rfl (Nat.le_of_ble_eq_true rfl) dX3_of_41 ⟨Nat.le_of_ble_eq_true rfl, Nat.le_of_ble_eq_true rfl⟩ (fun r_4 H locs hB hJ hSn => ?_)
      obtain ⟨⟨hP1, hD1⟩, hf4_0⟩ := hB
      obtain ⟨hPn, hDn⟩ := hJ _ hP1 hD1 [(oK, .inr (3, [.ref k1, .ref k2, .int lK])), (k1, .inl (cI, 1024, .inl fK1)), (k2, .inl (cI, 1024, .inl fK2))] rfl
      clear hP hD hS hJ hP1 hD1
      have hP := hPn
      have hD := hDn
      have hS := hSn
      clear hPn hDn hSn
      refine lv_istore (lv' := [(4, .int r_4), (3, .int r_2), (0, .ref oK), (1, .int x), (2, .int y)]) hx hb dX3_of_44 hl (by decide) rfl (fun ls hl => ?_)
      refine lv_iload_n hx hb dX3_of_46 rfl (lv_at hl 4 rfl) ?_
      refine kS_i (rest := []) hcf (m_X3_sortOf l dC dI cI cS H.size y ) kc_X3_sortOf gX3_of_X3_sortOf rfl rfl ⟨Nat.le_of_ble_eq_true rfl, Nat.le_of_ble_eq_true rfl⟩ kX_t hK hP hD hS hA [] [0, 1, 2] rfl (by decide +kernel) rfl hl rfl (Nat.le_of_ble_eq_true rfl) dX3_of_47 ⟨Nat.le_of_ble_eq_true rfl, Nat.le_of_ble_eq_true rfl⟩ (fun r_5 H locs hB hJ hSn => ?_)
      obtain ⟨⟨hP1, hD1⟩, hf5_0⟩ := hB
      obtain ⟨hPn, hDn⟩ := hJ _ hP1 hD1 [(oK, .inr (3, [.ref k1, .ref k2, .int lK])), (k1, .inl (cI, 1024, .inl fK1)), (k2, .inl (cI, 1024, .inl fK2))] rfl
      clear hP hD hS hJ hP1 hD1
      have hP := hPn
      have hD := hDn
      have hS := hSn
      clear hPn hDn hSn
      refine lv_istore (lv' := [(5, .int r_5), (4, .int r_4), (3, .int r_2), (0, .ref oK), (1, .int x), (2, .int y)]) hx hb dX3_of_50 hl (by decide) rfl (fun ls hl => ?_)
      refine lv_iload hx hb dX3_of_52 (lv_at hl 1 rfl) ?_
      refine lv_iload hx hb dX3_of_54 (lv_at hl 0 rfl) ?_
      refine lv_icmp_ne (tgt := 63) hx hb dX3_of_56 (by decide) (fun c_6 => ?_) (fun c_6 => ?_)
      · have tc_6 : ¬ r_4.toInt = r_5.toInt := v_ne c_6
        refine lv_bipush (v := 9) hx hb dX3_of_63 (by decide) ?_
        refine lv_istore (lv' := [(6, .int 9), (5, .int r_5), (4, .int r_4), (3, .int r_2), (0, .ref oK), (1, .int x), (2, .int y)]) hx hb dX3_of_65 hl (by decide) rfl (fun ls hl => ?_)
        refine lv_iload hx hb dX3_of_67 (lv_at hl 0 rfl) ?_
        refine lv_iload hx hb dX3_of_69 (lv_at hl 2 rfl) ?_
        refine lv_if_ne (tgt := 79) hx hb dX3_of_71 (by decide) (fun c_7 => ?_) (fun c_7 => ?_)
        · have tc_7 : ¬ r_4.toInt = 0 := v_ne c_7
          refine lv_iconst (v := 0) hx hb dX3_of_79 (by decide) ?_
          refine lv_iadd hx hb dX3_of_80 ?_
          refine k_i (y := 9) (by decide) ?_
          refine lv_istore (lv' := [(6, .int 9), (5, .int r_5), (4, .int r_4), (3, .int r_2), (0, .ref oK), (1, .int x), (2, .int y)]) hx hb dX3_of_81 hl (by decide) rfl (fun ls hl => ?_)
          refine lv_iload hx hb dX3_of_83 (lv_at hl 0 rfl) ?_
          refine lv_iload hx hb dX3_of_85 (lv_at hl 1 rfl) ?_
          refine lv_if_ne (tgt := 95) hx hb dX3_of_87 (by decide) (fun c_8 => ?_) (fun c_8 => ?_)
          · have tc_8 : ¬ r_5.toInt = 0 := v_ne c_8
            refine lv_iconst (v := 0) hx hb dX3_of_95 (by decide) ?_
            refine lv_iadd hx hb dX3_of_96 ?_
            refine k_i (y := 9) (by decide) ?_
            exact kl_i (v := 9) hQQ hx hb hr hlocks hS dX3_of_97 ⟨hP, hD⟩
          · have tc_8 : r_5.toInt = 0 := v_eq c_8
            refine lv_bipush (v := 30) hx hb dX3_of_90 (by decide) ?_
            refine lv_goto (tgt := 96) hx hb dX3_of_92 (by decide) ?_
            refine lv_iadd hx hb dX3_of_96 ?_
            refine k_i (y := 39) (by decide) ?_
            exact kl_i (v := 39) hQQ hx hb hr hlocks hS dX3_of_97 ⟨hP, hD⟩
        · have tc_7 : r_4.toInt = 0 := v_eq c_7
          refine lv_bipush (v := 30) hx hb dX3_of_74 (by decide) ?_
          refine lv_goto (tgt := 80) hx hb dX3_of_76 (by decide) ?_
          refine lv_iadd hx hb dX3_of_80 ?_
          refine k_i (y := 39) (by decide) ?_
          refine lv_istore (lv' := [(6, .int 39), (5, .int r_5), (4, .int r_4), (3, .int r_2), (0, .ref oK), (1, .int x), (2, .int y)]) hx hb dX3_of_81 hl (by decide) rfl (fun ls hl => ?_)
          refine lv_iload hx hb dX3_of_83 (lv_at hl 0 rfl) ?_
          refine lv_iload hx hb dX3_of_85 (lv_at hl 1 rfl) ?_
          refine lv_if_ne (tgt := 95) hx hb dX3_of_87 (by decide) (fun c_9 => ?_) (fun c_9 => ?_)
          · have tc_9 : ¬ r_5.toInt = 0 := v_ne c_9
            refine lv_iconst (v := 0) hx hb dX3_of_95 (by decide) ?_
            refine lv_iadd hx hb dX3_of_96 ?_
            refine k_i (y := 39) (by decide) ?_
            exact kl_i (v := 39) hQQ hx hb hr hlocks hS dX3_of_97 ⟨hP, hD⟩
          · have tc_9 : r_5.toInt = 0 := v_eq c_9
            refine lv_bipush (v := 30) hx hb dX3_of_90 (by decide) ?_
            refine lv_goto (tgt := 96) hx hb dX3_of_92 (by decide) ?_
            refine lv_iadd hx hb dX3_of_96 ?_
            refine k_i (y := 69) (by decide) ?_
            exact kl_i (v := 69) hQQ hx hb hr hlocks hS dX3_of_97 ⟨hP, hD⟩
      · have tc_6 : r_4.toInt = r_5.toInt := v_eq c_6
        refine lv_iconst (v := 4) hx hb dX3_of_59 (by decide) ?_
        refine lv_goto (tgt := 65) hx hb dX3_of_60 (by decide) ?_
        refine lv_istore (lv' := [(6, .int 4), (5, .int r_5), (4, .int r_4), (3, .int r_2), (0, .ref oK), (1, .int x), (2, .int y)]) hx hb dX3_of_65 hl (by decide) rfl (fun ls hl => ?_)
        refine lv_iload hx hb dX3_of_67 (lv_at hl 0 rfl) ?_
        refine lv_iload hx hb dX3_of_69 (lv_at hl 2 rfl) ?_
        refine lv_if_ne (tgt := 79) hx hb dX3_of_71 (by decide) (fun c_10 => ?_) (fun c_10 => ?_)
        · have tc_10 : ¬ r_4.toInt = 0 := v_ne c_10
          refine lv_iconst (v := 0) hx hb dX3_of_79 (by decide) ?_
          refine lv_iadd hx hb dX3_of_80 ?_
          refine k_i (y := 4) (by decide) ?_
          refine lv_istore (lv' := [(6, .int 4), (5, .int r_5), (4, .int r_4), (3, .int r_2), (0, .ref oK), (1, .int x), (2, .int y)]) hx hb dX3_of_81 hl (by decide) rfl (fun ls hl => ?_)
          refine lv_iload hx hb dX3_of_83 (lv_at hl 0 rfl) ?_
          refine lv_iload hx hb dX3_of_85 (lv_at hl 1 rfl) ?_
          refine lv_if_ne (tgt := 95) hx hb dX3_of_87 (by decide) (fun c_11 => ?_) (fun c_11 => ?_)
          · have tc_11 : ¬ r_5.toInt = 0 := v_ne c_11
            refine lv_iconst (v := 0) hx hb dX3_of_95 (by decide) ?_
            refine lv_iadd hx hb dX3_of_96 ?_
            refine k_i (y := 4) (by decide) ?_
            exact kl_i (v := 4) hQQ hx hb hr hlocks hS dX3_of_97 ⟨hP, hD⟩
          · have tc_11 : r_5.toInt = 0 := v_eq c_11
            refine lv_bipush (v := 30) hx hb dX3_of_90 (by decide) ?_
            refine lv_goto (tgt := 96) hx hb dX3_of_92 (by decide) ?_
            refine lv_iadd hx hb dX3_of_96 ?_
            refine k_i (y := 34) (by decide) ?_
            exact kl_i (v := 34) hQQ hx hb hr hlocks hS dX3_of_97 ⟨hP, hD⟩
        · have tc_10 : r_4.toInt = 0 := v_eq c_10
          refine lv_bipush (v := 30) hx hb dX3_of_74 (by decide) ?_
          refine lv_goto (tgt := 80) hx hb dX3_of_76 (by decide) ?_
          refine lv_iadd hx hb dX3_of_80 ?_
          refine k_i (y := 34) (by decide) ?_
          refine lv_istore (lv' := [(6, .int 34), (5, .int r_5), (4, .int r_4), (3, .int r_2), (0, .ref oK), (1, .int x), (2, .int y)]) hx hb dX3_of_81 hl (by decide) rfl (fun ls hl => ?_)
          refine lv_iload hx hb dX3_of_83 (lv_at hl 0 rfl) ?_
          refine lv_iload hx hb dX3_of_85 (lv_at hl 1 rfl) ?_
          refine lv_if_ne (tgt := 95) hx hb dX3_of_87 (by decide) (fun c_12 => ?_) (fun c_12 => ?_)
          · have tc_12 : ¬ r_5.toInt = 0 := v_ne c_12
            refine lv_iconst (v := 0) hx hb dX3_of_95 (by decide) ?_
            refine lv_iadd hx hb dX3_of_96 ?_
            refine k_i (y := 34) (by decide) ?_
            exact kl_i (v := 34) hQQ hx hb hr hlocks hS dX3_of_97 ⟨hP, hD⟩
          · have tc_12 : r_5.toInt = 0 := v_eq c_12
            refine lv_bipush (v := 30) hx hb dX3_of_90 (by decide) ?_
            refine lv_goto (tgt := 96) hx hb dX3_of_92 (by decide) ?_
            refine lv_iadd hx hb dX3_of_96 ?_
            refine k_i (y := 64) (by decide) ?_
            exact kl_i (v := 64) hQQ hx hb hr hlocks hS dX3_of_97 ⟨hP, hD⟩
    · have tc_3 : ¬ r_2.toInt = (-1) := v_ne c_3
      refine lv_aload_n hx hb dX3_of_23 rfl (lv_at hl 1 rfl) ?_
      refine va_get (D := (dC, dI)) (ci := 3) (v := .ref k2) (C := RX3) (T := TX3) (N := 3) hx hb hts in_X3 hown hK hP 0 rfl rfl 1 (by decide) (hts (.fieldLink RX3 15 "TextMender$Costs" "value" "[I") (List.mem_of_getElem? (i := 2) rfl)) (fun _ h9 => h9) rfl dX3_of_24 ?_
      refine lv_iload_n hx hb dX3_of_27 rfl (lv_at hl 0 rfl) ?_
      refine va_iald hx hb hK hP 2 0 rfl rfl (v_in (by omega)) dX3_of_28 ?_
      refine lv_topi (fun x_13 ex_13 => ?_)
      refine lv_iconst (v := (-1)) hx hb dX3_of_29 (by decide) ?_
      refine lv_icmp_eq (tgt := 40) hx hb dX3_of_30 (by decide) (fun c_14 => ?_) (fun c_14 => ?_)
      · have tc_14 : x_13.toInt = (-1) := v_eq c_14
        refine lv_iload_n hx hb dX3_of_40 rfl (lv_at hl 2 rfl) ?_
        refine kS_i (rest := []) hcf (m_X3_sortOf l dC dI cI cS H.size x ) kc_X3_sortOf gX3_of_X3_sortOf rfl rfl ⟨Nat.le_of_ble_eq_true rfl, Nat.le_of_ble_eq_true rfl⟩ kX_t hK hP hD hS hA [] [0, 1, 2] rfl (by decide +kernel) rfl hl rfl (Nat.le_of_ble_eq_true rfl) dX3_of_41 ⟨Nat.le_of_ble_eq_true rfl, Nat.le_of_ble_eq_true rfl⟩ (fun r_15 H locs hB hJ hSn => ?_)
        obtain ⟨⟨hP1, hD1⟩, hf15_0⟩ := hB
        obtain ⟨hPn, hDn⟩ := hJ _ hP1 hD1 [(oK, .inr (3, [.ref k1, .ref k2, .int lK])), (k1, .inl (cI, 1024, .inl fK1)), (k2, .inl (cI, 1024, .inl fK2))] rfl
        clear hP hD hS hJ hP1 hD1
        have hP := hPn
        have hD := hDn
        have hS := hSn
        clear hPn hDn hSn
        refine lv_istore (lv' := [(4, .int r_15), (3, .int r_2), (0, .ref oK), (1, .int x), (2, .int y)]) hx hb dX3_of_44 hl (by decide) rfl (fun ls hl => ?_)
        refine lv_iload_n hx hb dX3_of_46 rfl (lv_at hl 4 rfl) ?_
        refine kS_i (rest := []) hcf (m_X3_sortOf l dC dI cI cS H.size y ) kc_X3_sortOf gX3_of_X3_sortOf rfl rfl ⟨Nat.le_of_ble_eq_true rfl, Nat.le_of_ble_eq_true rfl⟩ kX_t hK hP hD hS hA [] [0, 1, 2] rfl (by decide +kernel) rfl hl rfl (Nat.le_of_ble_eq_true rfl) dX3_of_47 ⟨Nat.le_of_ble_eq_true rfl, Nat.le_of_ble_eq_true rfl⟩ (fun r_16 H locs hB hJ hSn => ?_)
        obtain ⟨⟨hP1, hD1⟩, hf16_0⟩ := hB
        obtain ⟨hPn, hDn⟩ := hJ _ hP1 hD1 [(oK, .inr (3, [.ref k1, .ref k2, .int lK])), (k1, .inl (cI, 1024, .inl fK1)), (k2, .inl (cI, 1024, .inl fK2))] rfl
        clear hP hD hS hJ hP1 hD1
        have hP := hPn
        have hD := hDn
        have hS := hSn
        clear hPn hDn hSn
        refine lv_istore (lv' := [(5, .int r_16), (4, .int r_15), (3, .int r_2), (0, .ref oK), (1, .int x), (2, .int y)]) hx hb dX3_of_50 hl (by decide) rfl (fun ls hl => ?_)
        refine lv_iload hx hb dX3_of_52 (lv_at hl 1 rfl) ?_
        refine lv_iload hx hb dX3_of_54 (lv_at hl 0 rfl) ?_
        refine lv_icmp_ne (tgt := 63) hx hb dX3_of_56 (by decide) (fun c_17 => ?_) (fun c_17 => ?_)
        · have tc_17 : ¬ r_15.toInt = r_16.toInt := v_ne c_17
          refine lv_bipush (v := 9) hx hb dX3_of_63 (by decide) ?_
          refine lv_istore (lv' := [(6, .int 9), (5, .int r_16), (4, .int r_15), (3, .int r_2), (0, .ref oK), (1, .int x), (2, .int y)]) hx hb dX3_of_65 hl (by decide) rfl (fun ls hl => ?_)
          refine lv_iload hx hb dX3_of_67 (lv_at hl 0 rfl) ?_
          refine lv_iload hx hb dX3_of_69 (lv_at hl 2 rfl) ?_
          refine lv_if_ne (tgt := 79) hx hb dX3_of_71 (by decide) (fun c_18 => ?_) (fun c_18 => ?_)
          · have tc_18 : ¬ r_15.toInt = 0 := v_ne c_18
            refine lv_iconst (v := 0) hx hb dX3_of_79 (by decide) ?_
            refine lv_iadd hx hb dX3_of_80 ?_
            refine k_i (y := 9) (by decide) ?_
            refine lv_istore (lv' := [(6, .int 9), (5, .int r_16), (4, .int r_15), (3, .int r_2), (0, .ref oK), (1, .int x), (2, .int y)]) hx hb dX3_of_81 hl (by decide) rfl (fun ls hl => ?_)
            refine lv_iload hx hb dX3_of_83 (lv_at hl 0 rfl) ?_
            refine lv_iload hx hb dX3_of_85 (lv_at hl 1 rfl) ?_
            refine lv_if_ne (tgt := 95) hx hb dX3_of_87 (by decide) (fun c_19 => ?_) (fun c_19 => ?_)
            · have tc_19 : ¬ r_16.toInt = 0 := v_ne c_19
              refine lv_iconst (v := 0) hx hb dX3_of_95 (by decide) ?_
              refine lv_iadd hx hb dX3_of_96 ?_
              refine k_i (y := 9) (by decide) ?_
              exact kl_i (v := 9) hQQ hx hb hr hlocks hS dX3_of_97 ⟨hP, hD⟩
            · have tc_19 : r_16.toInt = 0 := v_eq c_19
              refine lv_bipush (v := 30) hx hb dX3_of_90 (by decide) ?_
              refine lv_goto (tgt := 96) hx hb dX3_of_92 (by decide) ?_
              refine lv_iadd hx hb dX3_of_96 ?_
              refine k_i (y := 39) (by decide) ?_
              exact kl_i (v := 39) hQQ hx hb hr hlocks hS dX3_of_97 ⟨hP, hD⟩
          · have tc_18 : r_15.toInt = 0 := v_eq c_18
            refine lv_bipush (v := 30) hx hb dX3_of_74 (by decide) ?_
            refine lv_goto (tgt := 80) hx hb dX3_of_76 (by decide) ?_
            refine lv_iadd hx hb dX3_of_80 ?_
            refine k_i (y := 39) (by decide) ?_
            refine lv_istore (lv' := [(6, .int 39), (5, .int r_16), (4, .int r_15), (3, .int r_2), (0, .ref oK), (1, .int x), (2, .int y)]) hx hb dX3_of_81 hl (by decide) rfl (fun ls hl => ?_)
            refine lv_iload hx hb dX3_of_83 (lv_at hl 0 rfl) ?_
            refine lv_iload hx hb dX3_of_85 (lv_at hl 1 rfl) ?_
            refine lv_if_ne (tgt := 95) hx hb dX3_of_87 (by decide) (fun c_20 => ?_) (fun c_20 => ?_)
            · have tc_20 : ¬ r_16.toInt = 0 := v_ne c_20
              refine lv_iconst (v := 0) hx hb dX3_of_95 (by decide) ?_
              refine lv_iadd hx hb dX3_of_96 ?_
              refine k_i (y := 39) (by decide) ?_
              exact kl_i (v := 39) hQQ hx hb hr hlocks hS dX3_of_97 ⟨hP, hD⟩
            · have tc_20 : r_16.toInt = 0 := v_eq c_20
              refine lv_bipush (v := 30) hx hb dX3_of_90 (by decide) ?_
              refine lv_goto (tgt := 96) hx hb dX3_of_92 (by decide) ?_
              refine lv_iadd hx hb dX3_of_96 ?_
              refine k_i (y := 69) (by decide) ?_
              exact kl_i (v := 69) hQQ hx hb hr hlocks hS dX3_of_97 ⟨hP, hD⟩
        · have tc_17 : r_15.toInt = r_16.toInt := v_eq c_17
          refine lv_iconst (v := 4) hx hb dX3_of_59 (by decide) ?_
          refine lv_goto (tgt := 65) hx hb dX3_of_60 (by decide) ?_
          refine lv_istore (lv' := [(6, .int 4), (5, .int r_16), (4, .int r_15), (3, .int r_2), (0, .ref oK), (1, .int x), (2, .int y)]) hx hb dX3_of_65 hl (by decide) rfl (fun ls hl => ?_)
          refine lv_iload hx hb dX3_of_67 (lv_at hl 0 rfl) ?_
          refine lv_iload hx hb dX3_of_69 (lv_at hl 2 rfl) ?_
          refine lv_if_ne (tgt := 79) hx hb dX3_of_71 (by decide) (fun c_21 => ?_) (fun c_21 => ?_)
          · have tc_21 : ¬ r_15.toInt = 0 := v_ne c_21
            refine lv_iconst (v := 0) hx hb dX3_of_79 (by decide) ?_
            refine lv_iadd hx hb dX3_of_80 ?_
            refine k_i (y := 4) (by decide) ?_
            refine lv_istore (lv' := [(6, .int 4), (5, .int r_16), (4, .int r_15), (3, .int r_2), (0, .ref oK), (1, .int x), (2, .int y)]) hx hb dX3_of_81 hl (by decide) rfl (fun ls hl => ?_)
            refine lv_iload hx hb dX3_of_83 (lv_at hl 0 rfl) ?_
            refine lv_iload hx hb dX3_of_85 (lv_at hl 1 rfl) ?_
            refine lv_if_ne (tgt := 95) hx hb dX3_of_87 (by decide) (fun c_22 => ?_) (fun c_22 => ?_)
            · have tc_22 : ¬ r_16.toInt = 0 := v_ne c_22
              refine lv_iconst (v := 0) hx hb dX3_of_95 (by decide) ?_
              refine lv_iadd hx hb dX3_of_96 ?_
              refine k_i (y := 4) (by decide) ?_
              exact kl_i (v := 4) hQQ hx hb hr hlocks hS dX3_of_97 ⟨hP, hD⟩
            · have tc_22 : r_16.toInt = 0 := v_eq c_22
              refine lv_bipush (v := 30) hx hb dX3_of_90 (by decide) ?_
              refine lv_goto (tgt := 96) hx hb dX3_of_92 (by decide) ?_
              refine lv_iadd hx hb dX3_of_96 ?_
              refine k_i (y := 34) (by decide) ?_
              exact kl_i (v := 34) hQQ hx hb hr hlocks hS dX3_of_97 ⟨hP, hD⟩
          · have tc_21 : r_15.toInt = 0 := v_eq c_21
            refine lv_bipush (v := 30) hx hb dX3_of_74 (by decide) ?_
            refine lv_goto (tgt := 80) hx hb dX3_of_76 (by decide) ?_
            refine lv_iadd hx hb dX3_of_80 ?_
            refine k_i (y := 34) (by decide) ?_
            refine lv_istore (lv' := [(6, .int 34), (5, .int r_16), (4, .int r_15), (3, .int r_2), (0, .ref oK), (1, .int x), (2, .int y)]) hx hb dX3_of_81 hl (by decide) rfl (fun ls hl => ?_)
            refine lv_iload hx hb dX3_of_83 (lv_at hl 0 rfl) ?_
            refine lv_iload hx hb dX3_of_85 (lv_at hl 1 rfl) ?_
            refine lv_if_ne (tgt := 95) hx hb dX3_of_87 (by decide) (fun c_23 => ?_) (fun c_23 => ?_)
            · have tc_23 : ¬ r_16.toInt = 0 := v_ne c_23
              refine lv_iconst (v := 0) hx hb dX3_of_95 (by decide) ?_
              refine lv_iadd hx hb dX3_of_96 ?_
              refine k_i (y := 34) (by decide) ?_
              exact kl_i (v := 34) hQQ hx hb hr hlocks hS dX3_of_97 ⟨hP, hD⟩
            · have tc_23 : r_16.toInt = 0 := v_eq c_23
              refine lv_bipush (v := 30) hx hb dX3_of_90 (by decide) ?_
              refine lv_goto (tgt := 96) hx hb dX3_of_92 (by decide) ?_
              refine lv_iadd hx hb dX3_of_96 ?_
              refine k_i (y := 64) (by decide) ?_
              exact kl_i (v := 64) hQQ hx hb hr hlocks hS dX3_of_97 ⟨hP, hD⟩
      · have tc_14 : ¬ x_13.toInt = (-1) := v_ne c_14
        refine lv_aload_n hx hb dX3_of_33 rfl (lv_at hl 1 rfl) ?_
        refine va_get (D := (dC, dI)) (ci := 3) (v := .ref k2) (C := RX3) (T := TX3) (N := 3) hx hb hts in_X3 hown hK hP 0 rfl rfl 1 (by decide) (hts (.fieldLink RX3 15 "TextMender$Costs" "value" "[I") (List.mem_of_getElem? (i := 2) rfl)) (fun _ h9 => h9) rfl dX3_of_34 ?_
        refine lv_iload_n hx hb dX3_of_37 rfl (lv_at hl 0 rfl) ?_
        refine va_iald hx hb hK hP 2 0 rfl rfl (v_in (by omega)) dX3_of_38 ?_
        refine k_i (y := x_13) ex_13.symm ?_
        exact kl_i (v := x_13) hQQ hx hb hr hlocks hS dX3_of_39 ⟨hP, hD⟩
  · have tc_1 : lK.toInt = 0 := v_eq c_1
    refine lv_iconst (v := (-1)) hx hb dX3_of_7 (by decide) ?_
    refine lv_goto (tgt := 17) hx hb dX3_of_8 (by decide) ?_
    refine lv_istore_n (lv' := [(3, .int (-1)), (0, .ref oK), (1, .int x), (2, .int y)]) hx hb dX3_of_17 rfl hl (by decide) rfl (fun ls hl => ?_)
    refine lv_iload_n hx hb dX3_of_18 rfl (lv_at hl 0 rfl) ?_
    refine lv_iconst (v := (-1)) hx hb dX3_of_19 (by decide) ?_
    refine lv_icmp_eq (tgt := 40) hx hb dX3_of_20 (by decide) (fun c_24 => ?_) (fun c_24 => absurd c_24 (by decide))
    refine lv_iload_n hx hb dX3_of_40 rfl (lv_at hl 2 rfl) ?_
    refine kS_i (rest := []) hcf (m_X3_sortOf l dC dI cI cS s.heap.size x ) kc_X3_sortOf gX3_of_X3_sortOf rfl rfl ⟨Nat.le_of_ble_eq_true rfl, Nat.le_of_ble_eq_true rfl⟩ kX_t hK hP hD hS hA [] [0, 1, 2] rfl (by decide +kernel) rfl hl rfl (Nat.le_of_ble_eq_true rfl) dX3_of_41 ⟨Nat.le_of_ble_eq_true rfl, Nat.le_of_ble_eq_true rfl⟩ (fun r_25 H locs hB hJ hSn => ?_)
    obtain ⟨⟨hP1, hD1⟩, hf25_0⟩ := hB
    obtain ⟨hPn, hDn⟩ := hJ _ hP1 hD1 [(oK, .inr (3, [.ref k1, .ref k2, .int lK])), (k1, .inl (cI, 1024, .inl fK1)), (k2, .inl (cI, 1024, .inl fK2))] rfl
    clear hP hD hS hJ hP1 hD1
    have hP := hPn
    have hD := hDn
    have hS := hSn
    clear hPn hDn hSn
    refine lv_istore (lv' := [(4, .int r_25), (3, .int (-1)), (0, .ref oK), (1, .int x), (2, .int y)]) hx hb dX3_of_44 hl (by decide) rfl (fun ls hl => ?_)
    refine lv_iload_n hx hb dX3_of_46 rfl (lv_at hl 4 rfl) ?_
    refine kS_i (rest := []) hcf (m_X3_sortOf l dC dI cI cS H.size y ) kc_X3_sortOf gX3_of_X3_sortOf rfl rfl ⟨Nat.le_of_ble_eq_true rfl, Nat.le_of_ble_eq_true rfl⟩ kX_t hK hP hD hS hA [] [0, 1, 2] rfl (by decide +kernel) rfl hl rfl (Nat.le_of_ble_eq_true rfl) dX3_of_47 ⟨Nat.le_of_ble_eq_true rfl, Nat.le_of_ble_eq_true rfl⟩ (fun r_26 H locs hB hJ hSn => ?_)
    obtain ⟨⟨hP1, hD1⟩, hf26_0⟩ := hB
    obtain ⟨hPn, hDn⟩ := hJ _ hP1 hD1 [(oK, .inr (3, [.ref k1, .ref k2, .int lK])), (k1, .inl (cI, 1024, .inl fK1)), (k2, .inl (cI, 1024, .inl fK2))] rfl
    clear hP hD hS hJ hP1 hD1
    have hP := hPn
    have hD := hDn
    have hS := hSn
    clear hPn hDn hSn
    refine lv_istore (lv' := [(5, .int r_26), (4, .int r_25), (3, .int (-1)), (0, .ref oK), (1, .int x), (2, .int y)]) hx hb dX3_of_50 hl (by decide) rfl (fun ls hl => ?_)
    refine lv_iload hx hb dX3_of_52 (lv_at hl 1 rfl) ?_
    refine lv_iload hx hb dX3_of_54 (lv_at hl 0 rfl) ?_
    refine lv_icmp_ne (tgt := 63) hx hb dX3_of_56 (by decide) (fun c_27 => ?_) (fun c_27 => ?_)
    · have tc_27 : ¬ r_25.toInt = r_26.toInt := v_ne c_27
      refine lv_bipush (v := 9) hx hb dX3_of_63 (by decide) ?_
      refine lv_istore (lv' := [(6, .int 9), (5, .int r_26), (4, .int r_25), (3, .int (-1)), (0, .ref oK), (1, .int x), (2, .int y)]) hx hb dX3_of_65 hl (by decide) rfl (fun ls hl => ?_)
      refine lv_iload hx hb dX3_of_67 (lv_at hl 0 rfl) ?_
      refine lv_iload hx hb dX3_of_69 (lv_at hl 2 rfl) ?_
      refine lv_if_ne (tgt := 79) hx hb dX3_of_71 (by decide) (fun c_28 => ?_) (fun c_28 => ?_)
      · have tc_28 : ¬ r_25.toInt = 0 := v_ne c_28
        refine lv_iconst (v := 0) hx hb dX3_of_79 (by decide) ?_
        refine lv_iadd hx hb dX3_of_80 ?_
        refine k_i (y := 9) (by decide) ?_
        refine lv_istore (lv' := [(6, .int 9), (5, .int r_26), (4, .int r_25), (3, .int (-1)), (0, .ref oK), (1, .int x), (2, .int y)]) hx hb dX3_of_81 hl (by decide) rfl (fun ls hl => ?_)
        refine lv_iload hx hb dX3_of_83 (lv_at hl 0 rfl) ?_
        refine lv_iload hx hb dX3_of_85 (lv_at hl 1 rfl) ?_
        refine lv_if_ne (tgt := 95) hx hb dX3_of_87 (by decide) (fun c_29 => ?_) (fun c_29 => ?_)
        · have tc_29 : ¬ r_26.toInt = 0 := v_ne c_29
          refine lv_iconst (v := 0) hx hb dX3_of_95 (by decide) ?_
          refine lv_iadd hx hb dX3_of_96 ?_
          refine k_i (y := 9) (by decide) ?_
          exact kl_i (v := 9) hQQ hx hb hr hlocks hS dX3_of_97 ⟨hP, hD⟩
        · have tc_29 : r_26.toInt = 0 := v_eq c_29
          refine lv_bipush (v := 30) hx hb dX3_of_90 (by decide) ?_
          refine lv_goto (tgt := 96) hx hb dX3_of_92 (by decide) ?_
          refine lv_iadd hx hb dX3_of_96 ?_
          refine k_i (y := 39) (by decide) ?_
          exact kl_i (v := 39) hQQ hx hb hr hlocks hS dX3_of_97 ⟨hP, hD⟩
      · have tc_28 : r_25.toInt = 0 := v_eq c_28
        refine lv_bipush (v := 30) hx hb dX3_of_74 (by decide) ?_
        refine lv_goto (tgt := 80) hx hb dX3_of_76 (by decide) ?_
        refine lv_iadd hx hb dX3_of_80 ?_
        refine k_i (y := 39) (by decide) ?_
        refine lv_istore (lv' := [(6, .int 39), (5, .int r_26), (4, .int r_25), (3, .int (-1)), (0, .ref oK), (1, .int x), (2, .int y)]) hx hb dX3_of_81 hl (by decide) rfl (fun ls hl => ?_)
        refine lv_iload hx hb dX3_of_83 (lv_at hl 0 rfl) ?_
        refine lv_iload hx hb dX3_of_85 (lv_at hl 1 rfl) ?_
        refine lv_if_ne (tgt := 95) hx hb dX3_of_87 (by decide) (fun c_30 => ?_) (fun c_30 => ?_)
        · have tc_30 : ¬ r_26.toInt = 0 := v_ne c_30
          refine lv_iconst (v := 0) hx hb dX3_of_95 (by decide) ?_
          refine lv_iadd hx hb dX3_of_96 ?_
          refine k_i (y := 39) (by decide) ?_
          exact kl_i (v := 39) hQQ hx hb hr hlocks hS dX3_of_97 ⟨hP, hD⟩
        · have tc_30 : r_26.toInt = 0 := v_eq c_30
          refine lv_bipush (v := 30) hx hb dX3_of_90 (by decide) ?_
          refine lv_goto (tgt := 96) hx hb dX3_of_92 (by decide) ?_
          refine lv_iadd hx hb dX3_of_96 ?_
          refine k_i (y := 69) (by decide) ?_
          exact kl_i (v := 69) hQQ hx hb hr hlocks hS dX3_of_97 ⟨hP, hD⟩
    · have tc_27 : r_25.toInt = r_26.toInt := v_eq c_27
      refine lv_iconst (v := 4) hx hb dX3_of_59 (by decide) ?_
      refine lv_goto (tgt := 65) hx hb dX3_of_60 (by decide) ?_
      refine lv_istore (lv' := [(6, .int 4), (5, .int r_26), (4, .int r_25), (3, .int (-1)), (0, .ref oK), (1, .int x), (2, .int y)]) hx hb dX3_of_65 hl (by decide) rfl (fun ls hl => ?_)
      refine lv_iload hx hb dX3_of_67 (lv_at hl 0 rfl) ?_
      refine lv_iload hx hb dX3_of_69 (lv_at hl 2 rfl) ?_
      refine lv_if_ne (tgt := 79) hx hb dX3_of_71 (by decide) (fun c_31 => ?_) (fun c_31 => ?_)
      · have tc_31 : ¬ r_25.toInt = 0 := v_ne c_31
        refine lv_iconst (v := 0) hx hb dX3_of_79 (by decide) ?_
        refine lv_iadd hx hb dX3_of_80 ?_
        refine k_i (y := 4) (by decide) ?_
        refine lv_istore (lv' := [(6, .int 4), (5, .int r_26), (4, .int r_25), (3, .int (-1)), (0, .ref oK), (1, .int x), (2, .int y)]) hx hb dX3_of_81 hl (by decide) rfl (fun ls hl => ?_)
        refine lv_iload hx hb dX3_of_83 (lv_at hl 0 rfl) ?_
        refine lv_iload hx hb dX3_of_85 (lv_at hl 1 rfl) ?_
        refine lv_if_ne (tgt := 95) hx hb dX3_of_87 (by decide) (fun c_32 => ?_) (fun c_32 => ?_)
        · have tc_32 : ¬ r_26.toInt = 0 := v_ne c_32
          refine lv_iconst (v := 0) hx hb dX3_of_95 (by decide) ?_
          refine lv_iadd hx hb dX3_of_96 ?_
          refine k_i (y := 4) (by decide) ?_
          exact kl_i (v := 4) hQQ hx hb hr hlocks hS dX3_of_97 ⟨hP, hD⟩
        · have tc_32 : r_26.toInt = 0 := v_eq c_32
          refine lv_bipush (v := 30) hx hb dX3_of_90 (by decide) ?_
          refine lv_goto (tgt := 96) hx hb dX3_of_92 (by decide) ?_
          refine lv_iadd hx hb dX3_of_96 ?_
          refine k_i (y := 34) (by decide) ?_
          exact kl_i (v := 34) hQQ hx hb hr hlocks hS dX3_of_97 ⟨hP, hD⟩
      · have tc_31 : r_25.toInt = 0 := v_eq c_31
        refine lv_bipush (v := 30) hx hb dX3_of_74 (by decide) ?_
        refine lv_goto (tgt := 80) hx hb dX3_of_76 (by decide) ?_
        refine lv_iadd hx hb dX3_of_80 ?_
        refine k_i (y := 34) (by decide) ?_
        refine lv_istore (lv' := [(6, .int 34), (5, .int r_26), (4, .int r_25), (3, .int (-1)), (0, .ref oK), (1, .int x), (2, .int y)]) hx hb dX3_of_81 hl (by decide) rfl (fun ls hl => ?_)
        refine lv_iload hx hb dX3_of_83 (lv_at hl 0 rfl) ?_
        refine lv_iload hx hb dX3_of_85 (lv_at hl 1 rfl) ?_
        refine lv_if_ne (tgt := 95) hx hb dX3_of_87 (by decide) (fun c_33 => ?_) (fun c_33 => ?_)
        · have tc_33 : ¬ r_26.toInt = 0 := v_ne c_33
          refine lv_iconst (v := 0) hx hb dX3_of_95 (by decide) ?_
          refine lv_iadd hx hb dX3_of_96 ?_
          refine k_i (y := 34) (by decide) ?_
          exact kl_i (v := 34) hQQ hx hb hr hlocks hS dX3_of_97 ⟨hP, hD⟩
        · have tc_33 : r_26.toInt = 0 := v_eq c_33
          refine lv_bipush (v := 30) hx hb dX3_of_90 (by decide) ?_
          refine lv_goto (tgt := 96) hx hb dX3_of_92 (by decide) ?_
          refine lv_iadd hx hb dX3_of_96 ?_
          refine k_i (y := 64) (by decide) ?_
          exact kl_i (v := 64) hQQ hx hb hr hlocks hS dX3_of_97 ⟨hP, hD⟩

set_option maxHeartbeats 40000000 in
set_option maxRecDepth 100000 in
theorem m_X3_ofText (l : Launch) (dC : Nat → ClassId) (dI : Nat → Nat → Nat) (cI cS : ClassId) (sz : Nat) (oK : Nat) (nx : Nat) (k1 : Nat) (k2 : Nat) (ax : Nat) (lK : Int32) (fK1 : Nat → Int32) (fK2 : Nat → Int32) (lx : Int32) (fx : Nat → Int32) (g_lK : 0 ≤ lK.toInt ∧ lK.toInt ≤ 300) (g_lx : 0 ≤ lx.toInt ∧ lx.toInt ≤ 300) : kMi l yX3_ofText wsX3_ofText ({ frames := 3, cells := 0, slots := 0, locals := 73 } : Room) [.ref oK, .ref nx] sz (dC, dI) vwCl [(cI, .int), (cS, .short)] [(oK, .inr (3, [.ref k1, .ref k2, .int lK])), (k1, .inl (cI, 1024, .inl fK1)), (k2, .inl (cI, 1024, .inl fK2)), (nx, .inr (5, [.ref ax, .int lx])), (ax, .inl (cI, 300, .inl fx))] (fun _ => True) 0 0 (fun (A : Nat → Prop) (r : Int32) (hh9 : Heap) => kPD (dC, dI) vwCl A [(oK, .inr (3, [.ref k1, .ref k2, .int lK])), (k1, .inl (cI, 1024, .inl fK1)), (k2, .inl (cI, 1024, .inl fK2)), (nx, .inr (5, [.ref ax, .int lx])), (ax, .inl (cI, 300, .inl fx))] hh9) := by
  refine kMi_of (cc := cX3_ofText) (maxL := 6) (ret := (some .int)) (lv := [(0, .ref oK), (1, .ref nx)]) (by decide +kernel) rfl rfl (Nat.le_of_ble_eq_true rfl) ?_
  intro p e s m below meth c A QQ ls hx hb hr hts hml hown hlocks hA hQQ hK hX hP hD hS hl
  have hown : s.vm.findClass RX3 = some m.cls := hown
  have hcf := k_cf hx hb hml hown hts
  replace g_lK := hid g_lK
  refine lv_iconst (v := 0) hx hb dX3_ofText_0 (by decide) ?_
  refine lv_istore_n (lv' := [(2, .int 0), (0, .ref oK), (1, .ref nx)]) hx hb dX3_ofText_1 rfl hl (by decide) rfl (fun ls hl => ?_)
  refine lv_bipush (v := 32) hx hb dX3_ofText_2 (by decide) ?_
  refine lv_istore_n (lv' := [(3, .int 32), (2, .int 0), (0, .ref oK), (1, .ref nx)]) hx hb dX3_ofText_4 rfl hl (by decide) rfl (fun ls hl => ?_)
  refine lv_iconst (v := 0) hx hb dX3_ofText_5 (by decide) ?_
  refine lv_istore (lv' := [(4, .int 0), (3, .int 32), (2, .int 0), (0, .ref oK), (1, .ref nx)]) hx hb dX3_ofText_6 hl (by decide) rfl (fun ls hl => ?_)
  have LOOP_8 : ∀ (k_8 : Nat) (su : Int32) (be : Int32) (i : Int32) (H : Heap) (locs : List Loc) (ls : Array Slot), MSd (lx.toInt - i.toInt : Int) k_8 → (0 ≤ i.toInt ∧ i.toInt ≤ 300) → va_P (dC, dI) vwCl [(oK, .inr (3, [.ref k1, .ref k2, .int lK])), (k1, .inl (cI, 1024, .inl fK1)), (k2, .inl (cI, 1024, .inl fK2)), (nx, .inr (5, [.ref ax, .int lx])), (ax, .inl (cI, 300, .inl fx))] H → va_D A [(oK, .inr (3, [.ref k1, .ref k2, .int lK])), (k1, .inl (cI, 1024, .inl fK1)), (k2, .inl (cI, 1024, .inl fK2)), (nx, .inr (5, [.ref ax, .int lx])), (ax, .inl (cI, 300, .inl fx))] → va_S A s.heap H locs → lv_has ls 6 [(4, .int i), (3, .int be), (2, .int su), (0, .ref oK), (1, .ref nx)] → W p l e (headSpec wsX3_ofText ({ frames := 3, cells := 0, slots := 0, locals := 73 } : Room)).room s m ([.ref oK, .ref nx] : List Value).toArray below meth c H locs 0 0 (MQ below QQ ([.ref oK, .ref nx] : List Value).toArray s 0 0 A) (F0 m 8 ls []) := by
    clear hP hD hS hl
    intro k_8
    induction k_8 with
    | zero =>
      intro su be i H locs ls hm_8 g_i hP hD hS hl
      exact ms_0 hm_8
    | succ k_8 ih_8 =>
      intro su be i H locs ls hm_8 g_i hP hD hS hl
      refine lv_iload hx hb dX3_ofText_8 (lv_at hl 0 rfl) ?_
      refine lv_aload_n hx hb dX3_ofText_10 rfl (lv_at hl 4 rfl) ?_
      refine kV_i (rest := [.int i]) (q0 := 0) (ci := 5) hcf (m_X5_length l dC dI cI cS H.size nx ax lx ) kc_X5_length gX3_ofText_X5_length rfl rfl rfl ⟨Nat.le_of_ble_eq_true rfl, Nat.le_of_ble_eq_true rfl⟩ kX_t hK hP hD hS hA [3] [0, 1, 2, 4] rfl (by decide +kernel) rfl rfl rfl hl rfl (Nat.le_of_ble_eq_true rfl) dX3_ofText_11 ⟨Nat.le_of_ble_eq_true rfl, Nat.le_of_ble_eq_true rfl⟩ (fun r_1 H locs hB hJ hSn => ?_)
      obtain ⟨⟨hP1, hD1⟩, hf1_0⟩ := hB
      obtain ⟨hPn, hDn⟩ := hJ _ hP1 hD1 [(oK, .inr (3, [.ref k1, .ref k2, .int lK])), (k1, .inl (cI, 1024, .inl fK1)), (k2, .inl (cI, 1024, .inl fK2)), (ax, .inl (cI, 300, .inl fx)), (nx, .inr (5, [.ref ax, .int lx]))] rfl
      clear hP hD hS hJ hP1 hD1
      have hP := hPn
      have hD := hDn
      have hS := hSn
      clear hPn hDn hSn
      rw [hf1_0]
      refine lv_icmp_ge (tgt := 44) hx hb dX3_ofText_14 (by decide) (fun c_2 => ?_) (fun c_2 => ?_)
      · have tc_2 : lx.toInt ≤ i.toInt := v_le c_2
        refine lv_iload_n hx hb dX3_ofText_44 rfl (lv_at hl 2 rfl) ?_
        refine lv_aload_n hx hb dX3_ofText_45 rfl (lv_at hl 3 rfl) ?_
        refine lv_iload_n hx hb dX3_ofText_46 rfl (lv_at hl 1 rfl) ?_
        refine lv_bipush (v := 32) hx hb dX3_ofText_47 (by decide) ?_
        refine kV_i (rest := [.int su]) (q0 := 0) (ci := 3) hcf (m_X3_of l dC dI cI cS H.size oK k1 k2 lK fK1 fK2 be 32 (g_lK)) kc_X3_of gX3_ofText_X3_of rfl rfl rfl ⟨Nat.le_of_ble_eq_true rfl, Nat.le_of_ble_eq_true rfl⟩ kX_t hK hP hD hS hA [0, 1, 2] [3, 4] rfl (by decide +kernel) rfl rfl rfl hl rfl (Nat.le_of_ble_eq_true rfl) dX3_ofText_49 ⟨Nat.le_of_ble_eq_true rfl, Nat.le_of_ble_eq_true rfl⟩ (fun r_3 H locs hB hJ hSn => ?_)
        obtain ⟨hP1, hD1⟩ := hB
        obtain ⟨hPn, hDn⟩ := hJ _ hP1 hD1 [(ax, .inl (cI, 300, .inl fx)), (nx, .inr (5, [.ref ax, .int lx])), (oK, .inr (3, [.ref k1, .ref k2, .int lK])), (k1, .inl (cI, 1024, .inl fK1)), (k2, .inl (cI, 1024, .inl fK2))] rfl
        clear hP hD hS hJ hP1 hD1
        have hP := hPn
        have hD := hDn
        have hS := hSn
        clear hPn hDn hSn
        refine lv_iadd hx hb dX3_ofText_52 ?_
        refine lv_topi (fun x_4 ex_4 => ?_)
        have rv4_0 := v_rng su
        have rv4_1 := v_rng r_3
        exact kl_i (v := x_4) hQQ hx hb hr hlocks hS dX3_ofText_53 (kPD_sub hP hD [2, 3, 4, 1, 0] (by decide +kernel) rfl)
      · have tc_2 : i.toInt < lx.toInt := v_nle c_2
        refine lv_aload_n hx hb dX3_ofText_17 rfl (lv_at hl 4 rfl) ?_
        refine lv_iload hx hb dX3_ofText_18 (lv_at hl 0 rfl) ?_
        refine kV_i (rest := []) (q0 := 0) (ci := 5) hcf (m_X5_get l dC dI cI cS H.size nx ax 300 lx fx i (by omega) (by omega)) kc_X5_get gX3_ofText_X5_get rfl rfl rfl ⟨Nat.le_of_ble_eq_true rfl, Nat.le_of_ble_eq_true rfl⟩ kX_t hK hP hD hS hA [4, 3] [0, 1, 2] rfl (by decide +kernel) rfl rfl rfl hl rfl (Nat.le_of_ble_eq_true rfl) dX3_ofText_20 ⟨Nat.le_of_ble_eq_true rfl, Nat.le_of_ble_eq_true rfl⟩ (fun r_5 H locs hB hJ hSn => ?_)
        obtain ⟨⟨hP1, hD1⟩, hf5_0⟩ := hB
        obtain ⟨hPn, hDn⟩ := hJ _ hP1 hD1 [(oK, .inr (3, [.ref k1, .ref k2, .int lK])), (k1, .inl (cI, 1024, .inl fK1)), (k2, .inl (cI, 1024, .inl fK2)), (nx, .inr (5, [.ref ax, .int lx])), (ax, .inl (cI, 300, .inl fx))] rfl
        clear hP hD hS hJ hP1 hD1
        have hP := hPn
        have hD := hDn
        have hS := hSn
        clear hPn hDn hSn
        refine lv_istore (lv' := [(5, .int r_5), (4, .int i), (3, .int be), (2, .int su), (0, .ref oK), (1, .ref nx)]) hx hb dX3_ofText_23 hl (by decide) rfl (fun ls hl => ?_)
        refine lv_iload_n hx hb dX3_ofText_25 rfl (lv_at hl 3 rfl) ?_
        refine lv_aload_n hx hb dX3_ofText_26 rfl (lv_at hl 4 rfl) ?_
        refine lv_iload_n hx hb dX3_ofText_27 rfl (lv_at hl 2 rfl) ?_
        refine lv_iload hx hb dX3_ofText_28 (lv_at hl 0 rfl) ?_
        refine kV_i (rest := [.int su]) (q0 := 0) (ci := 3) hcf (m_X3_of l dC dI cI cS H.size oK k1 k2 lK fK1 fK2 be r_5 (g_lK)) kc_X3_of gX3_ofText_X3_of rfl rfl rfl ⟨Nat.le_of_ble_eq_true rfl, Nat.le_of_ble_eq_true rfl⟩ kX_t hK hP hD hS hA [0, 1, 2] [3, 4] rfl (by decide +kernel) rfl rfl rfl hl rfl (Nat.le_of_ble_eq_true rfl) dX3_ofText_30 ⟨Nat.le_of_ble_eq_true rfl, Nat.le_of_ble_eq_true rfl⟩ (fun r_6 H locs hB hJ hSn => ?_)
        obtain ⟨hP1, hD1⟩ := hB
        obtain ⟨hPn, hDn⟩ := hJ _ hP1 hD1 [(nx, .inr (5, [.ref ax, .int lx])), (ax, .inl (cI, 300, .inl fx)), (oK, .inr (3, [.ref k1, .ref k2, .int lK])), (k1, .inl (cI, 1024, .inl fK1)), (k2, .inl (cI, 1024, .inl fK2))] rfl
        clear hP hD hS hJ hP1 hD1
        have hP := hPn
        have hD := hDn
        have hS := hSn
        clear hPn hDn hSn
        refine lv_iadd hx hb dX3_ofText_33 ?_
        refine lv_topi (fun x_7 ex_7 => ?_)
        have rv7_0 := v_rng su
        have rv7_1 := v_rng r_6
        refine lv_istore_n (lv' := [(2, .int x_7), (5, .int r_5), (4, .int i), (3, .int be), (0, .ref oK), (1, .ref nx)]) hx hb dX3_ofText_34 rfl hl (by decide) rfl (fun ls hl => ?_)
        refine lv_iload hx hb dX3_ofText_35 (lv_at hl 1 rfl) ?_
        refine lv_istore_n (lv' := [(3, .int r_5), (2, .int x_7), (5, .int r_5), (4, .int i), (0, .ref oK), (1, .ref nx)]) hx hb dX3_ofText_37 rfl hl (by decide) rfl (fun ls hl => ?_)
        obtain ⟨x_8, ex_8⟩ : ∃ y : Int32, y = i + 1 := ⟨_, rfl⟩
        have tx_8 : x_8.toInt = i.toInt + 1 := v_addR (l2 := 1) (h2 := 1) ex_8 g_i (by decide) (by decide) (by decide)
        refine lv_iinc (v := x_8) (lv' := [(4, .int x_8), (3, .int r_5), (2, .int x_7), (5, .int r_5), (0, .ref oK), (1, .ref nx)]) hx hb dX3_ofText_38 hl (k := 3) rfl (by rw [ex_8]; rfl) (by decide) rfl (fun ls hl => ?_)
        refine lv_goto (tgt := 8) hx hb dX3_ofText_41 (by decide) ?_
        exact ih_8 x_7 r_5 x_8 _ _ _ (ms_lt hm_8 (by show ((lx.toInt - x_8.toInt : Int)) < lx.toInt - i.toInt; omega) (by show (0 : Int) < lx.toInt - i.toInt; omega)) (by show 0 ≤ x_8.toInt ∧ x_8.toInt ≤ 300; omega) (hP.sub [2, 3, 4, 0, 1] rfl) (hD.sub [2, 3, 4, 0, 1] (by decide +kernel) rfl) hS (lv_sub hl [0, 1, 2, 4, 5] rfl)
  exact LOOP_8 _ 0 32 0 _ _ _ (ms_s _) (by decide) hP hD hS (lv_sub hl [0, 1, 2, 3, 4] rfl)

set_option maxHeartbeats 40000000 in
set_option maxRecDepth 100000 in
theorem m_X0_length (l : Launch) (dC : Nat → ClassId) (dI : Nat → Nat → Nat) (cI cS : ClassId) (sz : Nat) (oG : Nat) (g1 : Nat) (g2 : Nat) (gn : Int32) (lG : Int32) (g_gn : 0 ≤ gn.toInt ∧ gn.toInt ≤ 19) (g_lG : 0 ≤ lG.toInt ∧ lG.toInt ≤ 20) : kMi l yX0_length wsX0_length ({ frames := 0, cells := 0, slots := 0, locals := 0 } : Room) [.ref oG] sz (dC, dI) vwCl [(cI, .int), (cS, .short)] [(oG, .inr (0, [.ref g1, .ref g2, .int gn, .int lG]))] (fun _ => True) 0 0 (fun (A : Nat → Prop) (r : Int32) (hh9 : Heap) => kPD (dC, dI) vwCl A [(oG, .inr (0, [.ref g1, .ref g2, .int gn, .int lG]))] hh9 ∧ (r = lG)) := by
  refine kMi_of (cc := cX0_length) (maxL := 1) (ret := (some .int)) (lv := [(0, .ref oG)]) (by decide +kernel) rfl rfl (Nat.le_of_ble_eq_true rfl) ?_
  intro p e s m below meth c A QQ ls hx hb hr hts hml hown hlocks hA hQQ hK hX hP hD hS hl
  have hown : s.vm.findClass RX0 = some m.cls := hown
  have hcf := k_cf hx hb hml hown hts
  have in_X0 : ∀ w ∈ wsX00, w ∈ wsX0_length := fun _ h => List.mem_cons_of_mem _ (List.mem_append_right _ (h))
  replace g_gn := hid g_gn
  replace g_lG := hid g_lG
  refine lv_aload_n hx hb dX0_length_0 rfl (lv_at hl 0 rfl) ?_
  refine va_get (D := (dC, dI)) (ci := 0) (v := .int lG) (C := RX0) (T := TX0) (N := 4) hx hb hts in_X0 hown hK hP 0 rfl rfl 3 (by decide) (hts (.fieldLink RX0 22 "TextMender$Changes" "length" "I") (List.mem_of_getElem? (i := 1) rfl)) (fun _ h9 => h9) rfl dX0_length_1 ?_
  exact kl_i (v := lG) hQQ hx hb hr hlocks hS dX0_length_4 ⟨⟨hP, hD⟩, rfl⟩

end

/-! 30.a.rows -/
section
set_option maxRecDepth 100000 in
theorem dA73_cX9_nameHarms : kDec cX9_nameHarms [(0, .iload_n 1, 1), (1, .ifCond .lt 42, 3), (43, .return_, 1), (4, .iload_n 1, 1), (5, .sipush 258, 3), (8, .if_icmp .ge 35, 3), (11, .aload_n 0, 1), (12, .getfield 33, 3), (15, .iload_n 1, 1), (16, .iconst 3, 1), (17, .imul, 1), (18, .iload_n 2, 1), (19, .iastore, 1), (20, .aload_n 0, 1), (21, .getfield 33, 3), (24, .iload_n 1, 1), (25, .iconst 3, 1), (26, .imul, 1), (27, .iconst 1, 1), (28, .iadd, 1), (29, .iload_n 3, 1), (30, .iastore, 1), (31, .aload_n 0, 1), (32, .getfield 33, 3)] = true := by decide +kernel
theorem dX9_nameHarms_0 : decode cX9_nameHarms 0 = .ok (.iload_n 1, 1) := kDec_at dA73_cX9_nameHarms 0 rfl
theorem dX9_nameHarms_1 : decode cX9_nameHarms 1 = .ok (.ifCond .lt 42, 3) := kDec_at dA73_cX9_nameHarms 1 rfl
theorem dX9_nameHarms_43 : decode cX9_nameHarms 43 = .ok (.return_, 1) := kDec_at dA73_cX9_nameHarms 2 rfl
theorem dX9_nameHarms_4 : decode cX9_nameHarms 4 = .ok (.iload_n 1, 1) := kDec_at dA73_cX9_nameHarms 3 rfl
theorem dX9_nameHarms_5 : decode cX9_nameHarms 5 = .ok (.sipush 258, 3) := kDec_at dA73_cX9_nameHarms 4 rfl
theorem dX9_nameHarms_8 : decode cX9_nameHarms 8 = .ok (.if_icmp .ge 35, 3) := kDec_at dA73_cX9_nameHarms 5 rfl
theorem dX9_nameHarms_11 : decode cX9_nameHarms 11 = .ok (.aload_n 0, 1) := kDec_at dA73_cX9_nameHarms 6 rfl
theorem dX9_nameHarms_12 : decode cX9_nameHarms 12 = .ok (.getfield 33, 3) := kDec_at dA73_cX9_nameHarms 7 rfl
theorem dX9_nameHarms_15 : decode cX9_nameHarms 15 = .ok (.iload_n 1, 1) := kDec_at dA73_cX9_nameHarms 8 rfl
theorem dX9_nameHarms_16 : decode cX9_nameHarms 16 = .ok (.iconst 3, 1) := kDec_at dA73_cX9_nameHarms 9 rfl
theorem dX9_nameHarms_17 : decode cX9_nameHarms 17 = .ok (.imul, 1) := kDec_at dA73_cX9_nameHarms 10 rfl
theorem dX9_nameHarms_18 : decode cX9_nameHarms 18 = .ok (.iload_n 2, 1) := kDec_at dA73_cX9_nameHarms 11 rfl
theorem dX9_nameHarms_19 : decode cX9_nameHarms 19 = .ok (.iastore, 1) := kDec_at dA73_cX9_nameHarms 12 rfl
theorem dX9_nameHarms_20 : decode cX9_nameHarms 20 = .ok (.aload_n 0, 1) := kDec_at dA73_cX9_nameHarms 13 rfl
theorem dX9_nameHarms_21 : decode cX9_nameHarms 21 = .ok (.getfield 33, 3) := kDec_at dA73_cX9_nameHarms 14 rfl
theorem dX9_nameHarms_24 : decode cX9_nameHarms 24 = .ok (.iload_n 1, 1) := kDec_at dA73_cX9_nameHarms 15 rfl
theorem dX9_nameHarms_25 : decode cX9_nameHarms 25 = .ok (.iconst 3, 1) := kDec_at dA73_cX9_nameHarms 16 rfl
theorem dX9_nameHarms_26 : decode cX9_nameHarms 26 = .ok (.imul, 1) := kDec_at dA73_cX9_nameHarms 17 rfl
theorem dX9_nameHarms_27 : decode cX9_nameHarms 27 = .ok (.iconst 1, 1) := kDec_at dA73_cX9_nameHarms 18 rfl
theorem dX9_nameHarms_28 : decode cX9_nameHarms 28 = .ok (.iadd, 1) := kDec_at dA73_cX9_nameHarms 19 rfl
theorem dX9_nameHarms_29 : decode cX9_nameHarms 29 = .ok (.iload_n 3, 1) := kDec_at dA73_cX9_nameHarms 20 rfl
theorem dX9_nameHarms_30 : decode cX9_nameHarms 30 = .ok (.iastore, 1) := kDec_at dA73_cX9_nameHarms 21 rfl
theorem dX9_nameHarms_31 : decode cX9_nameHarms 31 = .ok (.aload_n 0, 1) := kDec_at dA73_cX9_nameHarms 22 rfl
theorem dX9_nameHarms_32 : decode cX9_nameHarms 32 = .ok (.getfield 33, 3) := kDec_at dA73_cX9_nameHarms 23 rfl
set_option maxRecDepth 100000 in
theorem dA74_cX9_nameHarms : kDec cX9_nameHarms [(35, .iload_n 1, 1), (36, .iconst 3, 1), (37, .imul, 1), (38, .iconst 2, 1), (39, .iadd, 1), (40, .iload 4, 2), (42, .iastore, 1)] = true := by decide +kernel
theorem dX9_nameHarms_35 : decode cX9_nameHarms 35 = .ok (.iload_n 1, 1) := kDec_at dA74_cX9_nameHarms 0 rfl
theorem dX9_nameHarms_36 : decode cX9_nameHarms 36 = .ok (.iconst 3, 1) := kDec_at dA74_cX9_nameHarms 1 rfl
theorem dX9_nameHarms_37 : decode cX9_nameHarms 37 = .ok (.imul, 1) := kDec_at dA74_cX9_nameHarms 2 rfl
theorem dX9_nameHarms_38 : decode cX9_nameHarms 38 = .ok (.iconst 2, 1) := kDec_at dA74_cX9_nameHarms 3 rfl
theorem dX9_nameHarms_39 : decode cX9_nameHarms 39 = .ok (.iadd, 1) := kDec_at dA74_cX9_nameHarms 4 rfl
theorem dX9_nameHarms_40 : decode cX9_nameHarms 40 = .ok (.iload 4, 2) := kDec_at dA74_cX9_nameHarms 5 rfl
theorem dX9_nameHarms_42 : decode cX9_nameHarms 42 = .ok (.iastore, 1) := kDec_at dA74_cX9_nameHarms 6 rfl
set_option maxRecDepth 100000 in
theorem dA75_cX9_note : kDec cX9_note [(0, .iload_n 1, 1), (1, .ifCond .lt 34, 3), (35, .return_, 1), (4, .iload_n 1, 1), (5, .sipush 258, 3), (8, .if_icmp .ge 27, 3), (11, .aload_n 0, 1), (12, .getfield 26, 3), (15, .iload_n 1, 1), (16, .aload_n 0, 1), (17, .getfield 49, 3), (20, .aload_n 2, 1), (21, .invokevirtual 81, 3), (24, .iastore, 1), (25, .aload_n 0, 1), (26, .getfield 30, 3), (29, .iload_n 1, 1), (30, .aload_n 2, 1), (31, .invokevirtual 87, 3), (34, .iastore, 1)] = true := by decide +kernel
theorem dX9_note_0 : decode cX9_note 0 = .ok (.iload_n 1, 1) := kDec_at dA75_cX9_note 0 rfl
theorem dX9_note_1 : decode cX9_note 1 = .ok (.ifCond .lt 34, 3) := kDec_at dA75_cX9_note 1 rfl
theorem dX9_note_35 : decode cX9_note 35 = .ok (.return_, 1) := kDec_at dA75_cX9_note 2 rfl
theorem dX9_note_4 : decode cX9_note 4 = .ok (.iload_n 1, 1) := kDec_at dA75_cX9_note 3 rfl
theorem dX9_note_5 : decode cX9_note 5 = .ok (.sipush 258, 3) := kDec_at dA75_cX9_note 4 rfl
theorem dX9_note_8 : decode cX9_note 8 = .ok (.if_icmp .ge 27, 3) := kDec_at dA75_cX9_note 5 rfl
theorem dX9_note_11 : decode cX9_note 11 = .ok (.aload_n 0, 1) := kDec_at dA75_cX9_note 6 rfl
theorem dX9_note_12 : decode cX9_note 12 = .ok (.getfield 26, 3) := kDec_at dA75_cX9_note 7 rfl
theorem dX9_note_15 : decode cX9_note 15 = .ok (.iload_n 1, 1) := kDec_at dA75_cX9_note 8 rfl
theorem dX9_note_16 : decode cX9_note 16 = .ok (.aload_n 0, 1) := kDec_at dA75_cX9_note 9 rfl
theorem dX9_note_17 : decode cX9_note 17 = .ok (.getfield 49, 3) := kDec_at dA75_cX9_note 10 rfl
theorem dX9_note_20 : decode cX9_note 20 = .ok (.aload_n 2, 1) := kDec_at dA75_cX9_note 11 rfl
theorem dX9_note_21 : decode cX9_note 21 = .ok (.invokevirtual 81, 3) := kDec_at dA75_cX9_note 12 rfl
theorem dX9_note_24 : decode cX9_note 24 = .ok (.iastore, 1) := kDec_at dA75_cX9_note 13 rfl
theorem dX9_note_25 : decode cX9_note 25 = .ok (.aload_n 0, 1) := kDec_at dA75_cX9_note 14 rfl
theorem dX9_note_26 : decode cX9_note 26 = .ok (.getfield 30, 3) := kDec_at dA75_cX9_note 15 rfl
theorem dX9_note_29 : decode cX9_note 29 = .ok (.iload_n 1, 1) := kDec_at dA75_cX9_note 16 rfl
theorem dX9_note_30 : decode cX9_note 30 = .ok (.aload_n 2, 1) := kDec_at dA75_cX9_note 17 rfl
theorem dX9_note_31 : decode cX9_note 31 = .ok (.invokevirtual 87, 3) := kDec_at dA75_cX9_note 18 rfl
theorem dX9_note_34 : decode cX9_note 34 = .ok (.iastore, 1) := kDec_at dA75_cX9_note 19 rfl
set_option maxRecDepth 20000 in
theorem ggX9_note_X3_ofText : GoodIn wsX9_note wsX3_ofText := goodIn_r _ [8, 9, 10, 11, 12, 13, 14, 15, 16, 17, 18, 19, 20, 21, 22, 7, 23, 24, 25, 26, 27, 28, 29, 30, 31, 32, 33, 34, 35, 36, 37, 38, 39, 40, 54, 55, 56, 57, 58] rfl (by decide +kernel)
set_option maxRecDepth 20000 in
theorem gX9_note_X3_ofText : GoodIn wsX9_note (wsV RX9 81 RX3 yX3_ofText wsX3_ofText) := goodIn_app (goodIn_r _ [4, 5, 6, 7] rfl (by decide +kernel)) ggX9_note_X3_ofText
set_option maxRecDepth 20000 in
theorem ggX9_note_X5_length : GoodIn wsX9_note wsX5_length := goodIn_r _ [13, 14, 54, 55] rfl (by decide +kernel)
set_option maxRecDepth 20000 in
theorem gX9_note_X5_length : GoodIn wsX9_note (wsV RX9 87 RX5 yX5_length wsX5_length) := goodIn_app (goodIn_r _ [41, 10, 11, 12] rfl (by decide +kernel)) ggX9_note_X5_length
set_option maxRecDepth 100000 in
theorem dA76_cX9_find : kDec cX9_find [(0, .aload_n 0, 1), (1, .getfield 26, 3), (4, .iconst (-1), 1), (5, .invokestatic 53, 3), (8, .aload_n 0, 1), (9, .getfield 45, 3), (12, .invokevirtual 63, 3), (15, .istore_n 3, 1), (16, .iconst 0, 1), (17, .istore 4, 2), (19, .iload 4, 2), (21, .iload_n 3, 1), (22, .if_icmp .ge 206, 3), (228, .return_, 1), (25, .aload_n 0, 1), (26, .getfield 45, 3), (29, .iload 4, 2), (31, .aload_n 2, 1), (32, .aload_n 0, 1), (33, .getfield 14, 3), (36, .invokevirtual 69, 3), (39, .ifCond .ne 6, 3), (45, .aload_n 0, 1), (46, .iload 4, 2)] = true := by decide +kernel
theorem dX9_find_0 : decode cX9_find 0 = .ok (.aload_n 0, 1) := kDec_at dA76_cX9_find 0 rfl
theorem dX9_find_1 : decode cX9_find 1 = .ok (.getfield 26, 3) := kDec_at dA76_cX9_find 1 rfl
theorem dX9_find_4 : decode cX9_find 4 = .ok (.iconst (-1), 1) := kDec_at dA76_cX9_find 2 rfl
theorem dX9_find_5 : decode cX9_find 5 = .ok (.invokestatic 53, 3) := kDec_at dA76_cX9_find 3 rfl
theorem dX9_find_8 : decode cX9_find 8 = .ok (.aload_n 0, 1) := kDec_at dA76_cX9_find 4 rfl
theorem dX9_find_9 : decode cX9_find 9 = .ok (.getfield 45, 3) := kDec_at dA76_cX9_find 5 rfl
theorem dX9_find_12 : decode cX9_find 12 = .ok (.invokevirtual 63, 3) := kDec_at dA76_cX9_find 6 rfl
theorem dX9_find_15 : decode cX9_find 15 = .ok (.istore_n 3, 1) := kDec_at dA76_cX9_find 7 rfl
theorem dX9_find_16 : decode cX9_find 16 = .ok (.iconst 0, 1) := kDec_at dA76_cX9_find 8 rfl
theorem dX9_find_17 : decode cX9_find 17 = .ok (.istore 4, 2) := kDec_at dA76_cX9_find 9 rfl
theorem dX9_find_19 : decode cX9_find 19 = .ok (.iload 4, 2) := kDec_at dA76_cX9_find 10 rfl
theorem dX9_find_21 : decode cX9_find 21 = .ok (.iload_n 3, 1) := kDec_at dA76_cX9_find 11 rfl
theorem dX9_find_22 : decode cX9_find 22 = .ok (.if_icmp .ge 206, 3) := kDec_at dA76_cX9_find 12 rfl
theorem dX9_find_228 : decode cX9_find 228 = .ok (.return_, 1) := kDec_at dA76_cX9_find 13 rfl
theorem dX9_find_25 : decode cX9_find 25 = .ok (.aload_n 0, 1) := kDec_at dA76_cX9_find 14 rfl
theorem dX9_find_26 : decode cX9_find 26 = .ok (.getfield 45, 3) := kDec_at dA76_cX9_find 15 rfl
theorem dX9_find_29 : decode cX9_find 29 = .ok (.iload 4, 2) := kDec_at dA76_cX9_find 16 rfl
theorem dX9_find_31 : decode cX9_find 31 = .ok (.aload_n 2, 1) := kDec_at dA76_cX9_find 17 rfl
theorem dX9_find_32 : decode cX9_find 32 = .ok (.aload_n 0, 1) := kDec_at dA76_cX9_find 18 rfl
theorem dX9_find_33 : decode cX9_find 33 = .ok (.getfield 14, 3) := kDec_at dA76_cX9_find 19 rfl
theorem dX9_find_36 : decode cX9_find 36 = .ok (.invokevirtual 69, 3) := kDec_at dA76_cX9_find 20 rfl
theorem dX9_find_39 : decode cX9_find 39 = .ok (.ifCond .ne 6, 3) := kDec_at dA76_cX9_find 21 rfl
theorem dX9_find_45 : decode cX9_find 45 = .ok (.aload_n 0, 1) := kDec_at dA76_cX9_find 22 rfl
theorem dX9_find_46 : decode cX9_find 46 = .ok (.iload 4, 2) := kDec_at dA76_cX9_find 23 rfl
set_option maxRecDepth 20000 in
theorem ggX9_find_J7_fill_53178 : GoodIn wsX9_find wsJ7_fill_53178 := goodIn_r _ [9] rfl (by decide +kernel)
set_option maxRecDepth 20000 in
theorem gX9_find_J7_fill_53178 : GoodIn wsX9_find (va_wsS RX9 53 yJ7_fill_53178 wsJ7_fill_53178) := goodIn_app (goodIn_r _ [6, 7, 8] rfl (by decide +kernel)) ggX9_find_J7_fill_53178
set_option maxRecDepth 20000 in
theorem ggX9_find_X4_length : GoodIn wsX9_find wsX4_length := goodIn_r _ [14, 15, 183, 184, 185, 186] rfl (by decide +kernel)
set_option maxRecDepth 20000 in
theorem gX9_find_X4_length : GoodIn wsX9_find (wsV RX9 63 RX4 yX4_length wsX4_length) := goodIn_app (goodIn_r _ [10, 11, 12, 13] rfl (by decide +kernel)) ggX9_find_X4_length
set_option maxRecDepth 20000 in
theorem ggX9_find_X4_takeOff : GoodIn wsX9_find wsX4_takeOff := goodIn_r _ [19, 15, 20, 21, 22, 23, 24, 25, 26, 27, 28, 29, 30, 31, 32, 33, 34, 35, 36, 37, 38, 39, 40, 41, 42, 43, 44, 45, 46, 47, 48, 49, 50, 51, 52, 53, 54, 55, 56, 57, 58, 59, 60, 61, 62, 63, 64, 65, 66, 67, 68, 69, 70, 71, 72, 73, 74, 75, 76, 77, 78, 79, 80, 81, 82, 83, 84, 85, 86, 87, 88, 89, 90, 91, 92, 93, 94, 95, 96, 97, 98, 99, 100, 101, 102, 103, 104, 105, 106, 107, 108, 109, 110, 111, 112, 113, 114, 115, 116, 117, 118, 119, 120, 121, 122, 123, 124, 125, 126, 127, 128, 129, 183, 184, 185, 186, 187, 188, 189, 190, 191, 192, 193, 194, 195, 196, 197] rfl (by decide +kernel)
set_option maxRecDepth 20000 in
theorem gX9_find_X4_takeOff : GoodIn wsX9_find (wsV RX9 69 RX4 yX4_takeOff wsX4_takeOff) := goodIn_app (goodIn_r _ [16, 17, 18, 13] rfl (by decide +kernel)) ggX9_find_X4_takeOff
set_option maxRecDepth 100000 in
theorem dA77_cX9_find : kDec cX9_find [(48, .aload_n 0, 1), (49, .getfield 14, 3), (52, .invokevirtual 73, 3), (55, .aload_n 0, 1), (56, .iload 4, 2), (58, .iload 4, 2), (60, .iconst (-1), 1), (61, .iconst (-1), 1), (62, .invokevirtual 77, 3), (65, .iconst 0, 1), (66, .istore 5, 2), (68, .iload_n 1, 1), (69, .iconst 1, 1), (70, .if_icmp .le 152, 3), (222, .iinc 4 1, 3), (225, .goto (-206), 3), (73, .iload 5, 2), (75, .iload_n 3, 1), (76, .if_icmp .ge 146, 3), (79, .aload_n 0, 1), (80, .getfield 45, 3), (83, .iload 5, 2), (85, .aload_n 0, 1), (86, .getfield 14, 3)] = true := by decide +kernel
theorem dX9_find_48 : decode cX9_find 48 = .ok (.aload_n 0, 1) := kDec_at dA77_cX9_find 0 rfl
theorem dX9_find_49 : decode cX9_find 49 = .ok (.getfield 14, 3) := kDec_at dA77_cX9_find 1 rfl
theorem dX9_find_52 : decode cX9_find 52 = .ok (.invokevirtual 73, 3) := kDec_at dA77_cX9_find 2 rfl
theorem dX9_find_55 : decode cX9_find 55 = .ok (.aload_n 0, 1) := kDec_at dA77_cX9_find 3 rfl
theorem dX9_find_56 : decode cX9_find 56 = .ok (.iload 4, 2) := kDec_at dA77_cX9_find 4 rfl
theorem dX9_find_58 : decode cX9_find 58 = .ok (.iload 4, 2) := kDec_at dA77_cX9_find 5 rfl
theorem dX9_find_60 : decode cX9_find 60 = .ok (.iconst (-1), 1) := kDec_at dA77_cX9_find 6 rfl
theorem dX9_find_61 : decode cX9_find 61 = .ok (.iconst (-1), 1) := kDec_at dA77_cX9_find 7 rfl
theorem dX9_find_62 : decode cX9_find 62 = .ok (.invokevirtual 77, 3) := kDec_at dA77_cX9_find 8 rfl
theorem dX9_find_65 : decode cX9_find 65 = .ok (.iconst 0, 1) := kDec_at dA77_cX9_find 9 rfl
theorem dX9_find_66 : decode cX9_find 66 = .ok (.istore 5, 2) := kDec_at dA77_cX9_find 10 rfl
theorem dX9_find_68 : decode cX9_find 68 = .ok (.iload_n 1, 1) := kDec_at dA77_cX9_find 11 rfl
theorem dX9_find_69 : decode cX9_find 69 = .ok (.iconst 1, 1) := kDec_at dA77_cX9_find 12 rfl
theorem dX9_find_70 : decode cX9_find 70 = .ok (.if_icmp .le 152, 3) := kDec_at dA77_cX9_find 13 rfl
theorem dX9_find_222 : decode cX9_find 222 = .ok (.iinc 4 1, 3) := kDec_at dA77_cX9_find 14 rfl
theorem dX9_find_225 : decode cX9_find 225 = .ok (.goto (-206), 3) := kDec_at dA77_cX9_find 15 rfl
theorem dX9_find_73 : decode cX9_find 73 = .ok (.iload 5, 2) := kDec_at dA77_cX9_find 16 rfl
theorem dX9_find_75 : decode cX9_find 75 = .ok (.iload_n 3, 1) := kDec_at dA77_cX9_find 17 rfl
theorem dX9_find_76 : decode cX9_find 76 = .ok (.if_icmp .ge 146, 3) := kDec_at dA77_cX9_find 18 rfl
theorem dX9_find_79 : decode cX9_find 79 = .ok (.aload_n 0, 1) := kDec_at dA77_cX9_find 19 rfl
theorem dX9_find_80 : decode cX9_find 80 = .ok (.getfield 45, 3) := kDec_at dA77_cX9_find 20 rfl
theorem dX9_find_83 : decode cX9_find 83 = .ok (.iload 5, 2) := kDec_at dA77_cX9_find 21 rfl
theorem dX9_find_85 : decode cX9_find 85 = .ok (.aload_n 0, 1) := kDec_at dA77_cX9_find 22 rfl
theorem dX9_find_86 : decode cX9_find 86 = .ok (.getfield 14, 3) := kDec_at dA77_cX9_find 23 rfl
set_option maxRecDepth 20000 in
theorem ggX9_find_X9_note : GoodIn wsX9_find wsX9_note := goodIn_r _ [134, 1, 135, 136, 137, 138, 139, 140, 141, 142, 42, 43, 38, 44, 40, 143, 46, 47, 48, 49, 144, 145, 146, 147, 148, 149, 150, 151, 152, 153, 154, 155, 156, 157, 158, 159, 160, 161, 162, 163, 164, 165, 171, 172, 173, 174, 175, 176, 177, 178, 179, 180, 181, 182, 190, 191, 198, 199, 200] rfl (by decide +kernel)
set_option maxRecDepth 20000 in
theorem gX9_find_X9_note : GoodIn wsX9_find (wsV RX9 73 RX9 yX9_note wsX9_note) := goodIn_app (goodIn_r _ [130, 131, 132, 133] rfl (by decide +kernel)) ggX9_find_X9_note
set_option maxRecDepth 20000 in
theorem ggX9_find_X9_nameHarms : GoodIn wsX9_find wsX9_nameHarms := goodIn_r _ [169, 170, 171, 172, 173, 174, 175, 176, 177, 178, 179, 180, 181, 182] rfl (by decide +kernel)
set_option maxRecDepth 20000 in
theorem gX9_find_X9_nameHarms : GoodIn wsX9_find (wsV RX9 77 RX9 yX9_nameHarms wsX9_nameHarms) := goodIn_app (goodIn_r _ [166, 167, 168, 133] rfl (by decide +kernel)) ggX9_find_X9_nameHarms
set_option maxRecDepth 100000 in
theorem dA78_cX9_find : kDec cX9_find [(89, .aload_n 0, 1), (90, .getfield 20, 3), (93, .invokevirtual 69, 3), (96, .ifCond .ne 6, 3), (102, .iload_n 3, 1), (103, .iload 5, 2), (105, .iload_n 3, 1), (106, .imul, 1), (107, .iadd, 1), (108, .iload 4, 2), (110, .iadd, 1), (111, .istore 6, 2), (113, .aload_n 0, 1), (114, .iload 6, 2), (116, .aload_n 0, 1), (117, .getfield 20, 3), (120, .invokevirtual 73, 3), (123, .aload_n 0, 1), (124, .iload 6, 2), (126, .iload 5, 2), (128, .iload 4, 2), (130, .iconst (-1), 1), (131, .invokevirtual 77, 3), (134, .iconst 0, 1)] = true := by decide +kernel
theorem dX9_find_89 : decode cX9_find 89 = .ok (.aload_n 0, 1) := kDec_at dA78_cX9_find 0 rfl
theorem dX9_find_90 : decode cX9_find 90 = .ok (.getfield 20, 3) := kDec_at dA78_cX9_find 1 rfl
theorem dX9_find_93 : decode cX9_find 93 = .ok (.invokevirtual 69, 3) := kDec_at dA78_cX9_find 2 rfl
theorem dX9_find_96 : decode cX9_find 96 = .ok (.ifCond .ne 6, 3) := kDec_at dA78_cX9_find 3 rfl
theorem dX9_find_102 : decode cX9_find 102 = .ok (.iload_n 3, 1) := kDec_at dA78_cX9_find 4 rfl
theorem dX9_find_103 : decode cX9_find 103 = .ok (.iload 5, 2) := kDec_at dA78_cX9_find 5 rfl
theorem dX9_find_105 : decode cX9_find 105 = .ok (.iload_n 3, 1) := kDec_at dA78_cX9_find 6 rfl
theorem dX9_find_106 : decode cX9_find 106 = .ok (.imul, 1) := kDec_at dA78_cX9_find 7 rfl
theorem dX9_find_107 : decode cX9_find 107 = .ok (.iadd, 1) := kDec_at dA78_cX9_find 8 rfl
theorem dX9_find_108 : decode cX9_find 108 = .ok (.iload 4, 2) := kDec_at dA78_cX9_find 9 rfl
theorem dX9_find_110 : decode cX9_find 110 = .ok (.iadd, 1) := kDec_at dA78_cX9_find 10 rfl
theorem dX9_find_111 : decode cX9_find 111 = .ok (.istore 6, 2) := kDec_at dA78_cX9_find 11 rfl
theorem dX9_find_113 : decode cX9_find 113 = .ok (.aload_n 0, 1) := kDec_at dA78_cX9_find 12 rfl
theorem dX9_find_114 : decode cX9_find 114 = .ok (.iload 6, 2) := kDec_at dA78_cX9_find 13 rfl
theorem dX9_find_116 : decode cX9_find 116 = .ok (.aload_n 0, 1) := kDec_at dA78_cX9_find 14 rfl
theorem dX9_find_117 : decode cX9_find 117 = .ok (.getfield 20, 3) := kDec_at dA78_cX9_find 15 rfl
theorem dX9_find_120 : decode cX9_find 120 = .ok (.invokevirtual 73, 3) := kDec_at dA78_cX9_find 16 rfl
theorem dX9_find_123 : decode cX9_find 123 = .ok (.aload_n 0, 1) := kDec_at dA78_cX9_find 17 rfl
theorem dX9_find_124 : decode cX9_find 124 = .ok (.iload 6, 2) := kDec_at dA78_cX9_find 18 rfl
theorem dX9_find_126 : decode cX9_find 126 = .ok (.iload 5, 2) := kDec_at dA78_cX9_find 19 rfl
theorem dX9_find_128 : decode cX9_find 128 = .ok (.iload 4, 2) := kDec_at dA78_cX9_find 20 rfl
theorem dX9_find_130 : decode cX9_find 130 = .ok (.iconst (-1), 1) := kDec_at dA78_cX9_find 21 rfl
theorem dX9_find_131 : decode cX9_find 131 = .ok (.invokevirtual 77, 3) := kDec_at dA78_cX9_find 22 rfl
theorem dX9_find_134 : decode cX9_find 134 = .ok (.iconst 0, 1) := kDec_at dA78_cX9_find 23 rfl
set_option maxRecDepth 100000 in
theorem dA79_cX9_find : kDec cX9_find [(135, .istore 7, 2), (137, .iload_n 1, 1), (138, .iconst 2, 1), (139, .if_icmp .le 77, 3), (216, .iinc 5 1, 3), (219, .goto (-151), 3), (142, .iload 7, 2), (144, .iload_n 3, 1), (145, .if_icmp .ge 71, 3), (148, .aload_n 0, 1), (149, .getfield 45, 3), (152, .iload 7, 2), (154, .aload_n 0, 1), (155, .getfield 20, 3), (158, .aload_n 0, 1), (159, .getfield 23, 3), (162, .invokevirtual 69, 3), (165, .ifCond .eq 45, 3), (210, .iinc 7 1, 3), (213, .goto (-76), 3), (168, .iload_n 3, 1), (169, .iload_n 3, 1), (170, .iload_n 3, 1), (171, .imul, 1)] = true := by decide +kernel
theorem dX9_find_135 : decode cX9_find 135 = .ok (.istore 7, 2) := kDec_at dA79_cX9_find 0 rfl
theorem dX9_find_137 : decode cX9_find 137 = .ok (.iload_n 1, 1) := kDec_at dA79_cX9_find 1 rfl
theorem dX9_find_138 : decode cX9_find 138 = .ok (.iconst 2, 1) := kDec_at dA79_cX9_find 2 rfl
theorem dX9_find_139 : decode cX9_find 139 = .ok (.if_icmp .le 77, 3) := kDec_at dA79_cX9_find 3 rfl
theorem dX9_find_216 : decode cX9_find 216 = .ok (.iinc 5 1, 3) := kDec_at dA79_cX9_find 4 rfl
theorem dX9_find_219 : decode cX9_find 219 = .ok (.goto (-151), 3) := kDec_at dA79_cX9_find 5 rfl
theorem dX9_find_142 : decode cX9_find 142 = .ok (.iload 7, 2) := kDec_at dA79_cX9_find 6 rfl
theorem dX9_find_144 : decode cX9_find 144 = .ok (.iload_n 3, 1) := kDec_at dA79_cX9_find 7 rfl
theorem dX9_find_145 : decode cX9_find 145 = .ok (.if_icmp .ge 71, 3) := kDec_at dA79_cX9_find 8 rfl
theorem dX9_find_148 : decode cX9_find 148 = .ok (.aload_n 0, 1) := kDec_at dA79_cX9_find 9 rfl
theorem dX9_find_149 : decode cX9_find 149 = .ok (.getfield 45, 3) := kDec_at dA79_cX9_find 10 rfl
theorem dX9_find_152 : decode cX9_find 152 = .ok (.iload 7, 2) := kDec_at dA79_cX9_find 11 rfl
theorem dX9_find_154 : decode cX9_find 154 = .ok (.aload_n 0, 1) := kDec_at dA79_cX9_find 12 rfl
theorem dX9_find_155 : decode cX9_find 155 = .ok (.getfield 20, 3) := kDec_at dA79_cX9_find 13 rfl
theorem dX9_find_158 : decode cX9_find 158 = .ok (.aload_n 0, 1) := kDec_at dA79_cX9_find 14 rfl
theorem dX9_find_159 : decode cX9_find 159 = .ok (.getfield 23, 3) := kDec_at dA79_cX9_find 15 rfl
theorem dX9_find_162 : decode cX9_find 162 = .ok (.invokevirtual 69, 3) := kDec_at dA79_cX9_find 16 rfl
theorem dX9_find_165 : decode cX9_find 165 = .ok (.ifCond .eq 45, 3) := kDec_at dA79_cX9_find 17 rfl
theorem dX9_find_210 : decode cX9_find 210 = .ok (.iinc 7 1, 3) := kDec_at dA79_cX9_find 18 rfl
theorem dX9_find_213 : decode cX9_find 213 = .ok (.goto (-76), 3) := kDec_at dA79_cX9_find 19 rfl
theorem dX9_find_168 : decode cX9_find 168 = .ok (.iload_n 3, 1) := kDec_at dA79_cX9_find 20 rfl
theorem dX9_find_169 : decode cX9_find 169 = .ok (.iload_n 3, 1) := kDec_at dA79_cX9_find 21 rfl
theorem dX9_find_170 : decode cX9_find 170 = .ok (.iload_n 3, 1) := kDec_at dA79_cX9_find 22 rfl
theorem dX9_find_171 : decode cX9_find 171 = .ok (.imul, 1) := kDec_at dA79_cX9_find 23 rfl
set_option maxRecDepth 100000 in
theorem dA80_cX9_find : kDec cX9_find [(172, .iadd, 1), (173, .iload 7, 2), (175, .iload_n 3, 1), (176, .imul, 1), (177, .iload 5, 2), (179, .iadd, 1), (180, .iload_n 3, 1), (181, .imul, 1), (182, .iadd, 1), (183, .iload 4, 2), (185, .iadd, 1), (186, .istore 8, 2), (188, .aload_n 0, 1), (189, .iload 8, 2), (191, .aload_n 0, 1), (192, .getfield 23, 3), (195, .invokevirtual 73, 3), (198, .aload_n 0, 1), (199, .iload 8, 2), (201, .iload 7, 2), (203, .iload 5, 2), (205, .iload 4, 2), (207, .invokevirtual 77, 3), (99, .goto 117, 3)] = true := by decide +kernel
theorem dX9_find_172 : decode cX9_find 172 = .ok (.iadd, 1) := kDec_at dA80_cX9_find 0 rfl
theorem dX9_find_173 : decode cX9_find 173 = .ok (.iload 7, 2) := kDec_at dA80_cX9_find 1 rfl
theorem dX9_find_175 : decode cX9_find 175 = .ok (.iload_n 3, 1) := kDec_at dA80_cX9_find 2 rfl
theorem dX9_find_176 : decode cX9_find 176 = .ok (.imul, 1) := kDec_at dA80_cX9_find 3 rfl
theorem dX9_find_177 : decode cX9_find 177 = .ok (.iload 5, 2) := kDec_at dA80_cX9_find 4 rfl
theorem dX9_find_179 : decode cX9_find 179 = .ok (.iadd, 1) := kDec_at dA80_cX9_find 5 rfl
theorem dX9_find_180 : decode cX9_find 180 = .ok (.iload_n 3, 1) := kDec_at dA80_cX9_find 6 rfl
theorem dX9_find_181 : decode cX9_find 181 = .ok (.imul, 1) := kDec_at dA80_cX9_find 7 rfl
theorem dX9_find_182 : decode cX9_find 182 = .ok (.iadd, 1) := kDec_at dA80_cX9_find 8 rfl
theorem dX9_find_183 : decode cX9_find 183 = .ok (.iload 4, 2) := kDec_at dA80_cX9_find 9 rfl
theorem dX9_find_185 : decode cX9_find 185 = .ok (.iadd, 1) := kDec_at dA80_cX9_find 10 rfl
theorem dX9_find_186 : decode cX9_find 186 = .ok (.istore 8, 2) := kDec_at dA80_cX9_find 11 rfl
theorem dX9_find_188 : decode cX9_find 188 = .ok (.aload_n 0, 1) := kDec_at dA80_cX9_find 12 rfl
theorem dX9_find_189 : decode cX9_find 189 = .ok (.iload 8, 2) := kDec_at dA80_cX9_find 13 rfl
theorem dX9_find_191 : decode cX9_find 191 = .ok (.aload_n 0, 1) := kDec_at dA80_cX9_find 14 rfl
theorem dX9_find_192 : decode cX9_find 192 = .ok (.getfield 23, 3) := kDec_at dA80_cX9_find 15 rfl
theorem dX9_find_195 : decode cX9_find 195 = .ok (.invokevirtual 73, 3) := kDec_at dA80_cX9_find 16 rfl
theorem dX9_find_198 : decode cX9_find 198 = .ok (.aload_n 0, 1) := kDec_at dA80_cX9_find 17 rfl
theorem dX9_find_199 : decode cX9_find 199 = .ok (.iload 8, 2) := kDec_at dA80_cX9_find 18 rfl
theorem dX9_find_201 : decode cX9_find 201 = .ok (.iload 7, 2) := kDec_at dA80_cX9_find 19 rfl
theorem dX9_find_203 : decode cX9_find 203 = .ok (.iload 5, 2) := kDec_at dA80_cX9_find 20 rfl
theorem dX9_find_205 : decode cX9_find 205 = .ok (.iload 4, 2) := kDec_at dA80_cX9_find 21 rfl
theorem dX9_find_207 : decode cX9_find 207 = .ok (.invokevirtual 77, 3) := kDec_at dA80_cX9_find 22 rfl
theorem dX9_find_99 : decode cX9_find 99 = .ok (.goto 117, 3) := kDec_at dA80_cX9_find 23 rfl
set_option maxRecDepth 100000 in
theorem dA81_cX9_find : kDec cX9_find [(42, .goto 180, 3)] = true := by decide +kernel
theorem dX9_find_42 : decode cX9_find 42 = .ok (.goto 180, 3) := kDec_at dA81_cX9_find 0 rfl
set_option maxRecDepth 100000 in
theorem dA82_cX9_keepFound : kDec cX9_keepFound [(0, .aload_n 0, 1), (1, .iconst 0, 1), (2, .putfield 59, 3), (5, .iconst 0, 1), (6, .istore_n 1, 1), (7, .iload_n 1, 1), (8, .sipush 258, 3), (11, .if_icmp .ge 95, 3), (106, .aload_n 0, 1), (107, .getfield 59, 3), (110, .ireturn, 1), (14, .aload_n 0, 1), (15, .getfield 26, 3), (18, .iload_n 1, 1), (19, .iaload, 1), (20, .iconst (-1), 1), (21, .if_icmp .eq 79, 3), (100, .iinc 1 1, 3), (103, .goto (-96), 3), (24, .aload_n 0, 1), (25, .getfield 36, 3), (28, .aload_n 0, 1), (29, .getfield 59, 3), (32, .aload_n 0, 1)] = true := by decide +kernel
theorem dX9_keepFound_0 : decode cX9_keepFound 0 = .ok (.aload_n 0, 1) := kDec_at dA82_cX9_keepFound 0 rfl
theorem dX9_keepFound_1 : decode cX9_keepFound 1 = .ok (.iconst 0, 1) := kDec_at dA82_cX9_keepFound 1 rfl
theorem dX9_keepFound_2 : decode cX9_keepFound 2 = .ok (.putfield 59, 3) := kDec_at dA82_cX9_keepFound 2 rfl
theorem dX9_keepFound_5 : decode cX9_keepFound 5 = .ok (.iconst 0, 1) := kDec_at dA82_cX9_keepFound 3 rfl
theorem dX9_keepFound_6 : decode cX9_keepFound 6 = .ok (.istore_n 1, 1) := kDec_at dA82_cX9_keepFound 4 rfl
theorem dX9_keepFound_7 : decode cX9_keepFound 7 = .ok (.iload_n 1, 1) := kDec_at dA82_cX9_keepFound 5 rfl
theorem dX9_keepFound_8 : decode cX9_keepFound 8 = .ok (.sipush 258, 3) := kDec_at dA82_cX9_keepFound 6 rfl
theorem dX9_keepFound_11 : decode cX9_keepFound 11 = .ok (.if_icmp .ge 95, 3) := kDec_at dA82_cX9_keepFound 7 rfl
theorem dX9_keepFound_106 : decode cX9_keepFound 106 = .ok (.aload_n 0, 1) := kDec_at dA82_cX9_keepFound 8 rfl
theorem dX9_keepFound_107 : decode cX9_keepFound 107 = .ok (.getfield 59, 3) := kDec_at dA82_cX9_keepFound 9 rfl
theorem dX9_keepFound_110 : decode cX9_keepFound 110 = .ok (.ireturn, 1) := kDec_at dA82_cX9_keepFound 10 rfl
theorem dX9_keepFound_14 : decode cX9_keepFound 14 = .ok (.aload_n 0, 1) := kDec_at dA82_cX9_keepFound 11 rfl
theorem dX9_keepFound_15 : decode cX9_keepFound 15 = .ok (.getfield 26, 3) := kDec_at dA82_cX9_keepFound 12 rfl
theorem dX9_keepFound_18 : decode cX9_keepFound 18 = .ok (.iload_n 1, 1) := kDec_at dA82_cX9_keepFound 13 rfl
theorem dX9_keepFound_19 : decode cX9_keepFound 19 = .ok (.iaload, 1) := kDec_at dA82_cX9_keepFound 14 rfl
theorem dX9_keepFound_20 : decode cX9_keepFound 20 = .ok (.iconst (-1), 1) := kDec_at dA82_cX9_keepFound 15 rfl
theorem dX9_keepFound_21 : decode cX9_keepFound 21 = .ok (.if_icmp .eq 79, 3) := kDec_at dA82_cX9_keepFound 16 rfl
theorem dX9_keepFound_100 : decode cX9_keepFound 100 = .ok (.iinc 1 1, 3) := kDec_at dA82_cX9_keepFound 17 rfl
theorem dX9_keepFound_103 : decode cX9_keepFound 103 = .ok (.goto (-96), 3) := kDec_at dA82_cX9_keepFound 18 rfl
theorem dX9_keepFound_24 : decode cX9_keepFound 24 = .ok (.aload_n 0, 1) := kDec_at dA82_cX9_keepFound 19 rfl
theorem dX9_keepFound_25 : decode cX9_keepFound 25 = .ok (.getfield 36, 3) := kDec_at dA82_cX9_keepFound 20 rfl
theorem dX9_keepFound_28 : decode cX9_keepFound 28 = .ok (.aload_n 0, 1) := kDec_at dA82_cX9_keepFound 21 rfl
theorem dX9_keepFound_29 : decode cX9_keepFound 29 = .ok (.getfield 59, 3) := kDec_at dA82_cX9_keepFound 22 rfl
theorem dX9_keepFound_32 : decode cX9_keepFound 32 = .ok (.aload_n 0, 1) := kDec_at dA82_cX9_keepFound 23 rfl
set_option maxRecDepth 100000 in
theorem dA83_cX9_keepFound : kDec cX9_keepFound [(33, .getfield 26, 3), (36, .iload_n 1, 1), (37, .iaload, 1), (38, .iastore, 1), (39, .aload_n 0, 1), (40, .getfield 39, 3), (43, .aload_n 0, 1), (44, .getfield 59, 3), (47, .aload_n 0, 1), (48, .getfield 30, 3), (51, .iload_n 1, 1), (52, .iaload, 1), (53, .iastore, 1), (54, .iconst 0, 1), (55, .istore_n 2, 1), (56, .iload_n 2, 1), (57, .iconst 3, 1), (58, .if_icmp .ge 32, 3), (90, .aload_n 0, 1), (91, .dup, 1), (92, .getfield 59, 3), (95, .iconst 1, 1), (96, .iadd, 1), (97, .putfield 59, 3)] = true := by decide +kernel
theorem dX9_keepFound_33 : decode cX9_keepFound 33 = .ok (.getfield 26, 3) := kDec_at dA83_cX9_keepFound 0 rfl
theorem dX9_keepFound_36 : decode cX9_keepFound 36 = .ok (.iload_n 1, 1) := kDec_at dA83_cX9_keepFound 1 rfl
theorem dX9_keepFound_37 : decode cX9_keepFound 37 = .ok (.iaload, 1) := kDec_at dA83_cX9_keepFound 2 rfl
theorem dX9_keepFound_38 : decode cX9_keepFound 38 = .ok (.iastore, 1) := kDec_at dA83_cX9_keepFound 3 rfl
theorem dX9_keepFound_39 : decode cX9_keepFound 39 = .ok (.aload_n 0, 1) := kDec_at dA83_cX9_keepFound 4 rfl
theorem dX9_keepFound_40 : decode cX9_keepFound 40 = .ok (.getfield 39, 3) := kDec_at dA83_cX9_keepFound 5 rfl
theorem dX9_keepFound_43 : decode cX9_keepFound 43 = .ok (.aload_n 0, 1) := kDec_at dA83_cX9_keepFound 6 rfl
theorem dX9_keepFound_44 : decode cX9_keepFound 44 = .ok (.getfield 59, 3) := kDec_at dA83_cX9_keepFound 7 rfl
theorem dX9_keepFound_47 : decode cX9_keepFound 47 = .ok (.aload_n 0, 1) := kDec_at dA83_cX9_keepFound 8 rfl
theorem dX9_keepFound_48 : decode cX9_keepFound 48 = .ok (.getfield 30, 3) := kDec_at dA83_cX9_keepFound 9 rfl
theorem dX9_keepFound_51 : decode cX9_keepFound 51 = .ok (.iload_n 1, 1) := kDec_at dA83_cX9_keepFound 10 rfl
theorem dX9_keepFound_52 : decode cX9_keepFound 52 = .ok (.iaload, 1) := kDec_at dA83_cX9_keepFound 11 rfl
theorem dX9_keepFound_53 : decode cX9_keepFound 53 = .ok (.iastore, 1) := kDec_at dA83_cX9_keepFound 12 rfl
theorem dX9_keepFound_54 : decode cX9_keepFound 54 = .ok (.iconst 0, 1) := kDec_at dA83_cX9_keepFound 13 rfl
theorem dX9_keepFound_55 : decode cX9_keepFound 55 = .ok (.istore_n 2, 1) := kDec_at dA83_cX9_keepFound 14 rfl
theorem dX9_keepFound_56 : decode cX9_keepFound 56 = .ok (.iload_n 2, 1) := kDec_at dA83_cX9_keepFound 15 rfl
theorem dX9_keepFound_57 : decode cX9_keepFound 57 = .ok (.iconst 3, 1) := kDec_at dA83_cX9_keepFound 16 rfl
theorem dX9_keepFound_58 : decode cX9_keepFound 58 = .ok (.if_icmp .ge 32, 3) := kDec_at dA83_cX9_keepFound 17 rfl
theorem dX9_keepFound_90 : decode cX9_keepFound 90 = .ok (.aload_n 0, 1) := kDec_at dA83_cX9_keepFound 18 rfl
theorem dX9_keepFound_91 : decode cX9_keepFound 91 = .ok (.dup, 1) := kDec_at dA83_cX9_keepFound 19 rfl
theorem dX9_keepFound_92 : decode cX9_keepFound 92 = .ok (.getfield 59, 3) := kDec_at dA83_cX9_keepFound 20 rfl
theorem dX9_keepFound_95 : decode cX9_keepFound 95 = .ok (.iconst 1, 1) := kDec_at dA83_cX9_keepFound 21 rfl
theorem dX9_keepFound_96 : decode cX9_keepFound 96 = .ok (.iadd, 1) := kDec_at dA83_cX9_keepFound 22 rfl
theorem dX9_keepFound_97 : decode cX9_keepFound 97 = .ok (.putfield 59, 3) := kDec_at dA83_cX9_keepFound 23 rfl
set_option maxRecDepth 100000 in
theorem dA84_cX9_keepFound : kDec cX9_keepFound [(61, .aload_n 0, 1), (62, .getfield 42, 3), (65, .aload_n 0, 1), (66, .getfield 59, 3), (69, .iconst 3, 1), (70, .imul, 1), (71, .iload_n 2, 1), (72, .iadd, 1), (73, .aload_n 0, 1), (74, .getfield 33, 3), (77, .iload_n 1, 1), (78, .iconst 3, 1), (79, .imul, 1), (80, .iload_n 2, 1), (81, .iadd, 1), (82, .iaload, 1), (83, .iastore, 1), (84, .iinc 2 1, 3), (87, .goto (-31), 3)] = true := by decide +kernel
theorem dX9_keepFound_61 : decode cX9_keepFound 61 = .ok (.aload_n 0, 1) := kDec_at dA84_cX9_keepFound 0 rfl
theorem dX9_keepFound_62 : decode cX9_keepFound 62 = .ok (.getfield 42, 3) := kDec_at dA84_cX9_keepFound 1 rfl
theorem dX9_keepFound_65 : decode cX9_keepFound 65 = .ok (.aload_n 0, 1) := kDec_at dA84_cX9_keepFound 2 rfl
theorem dX9_keepFound_66 : decode cX9_keepFound 66 = .ok (.getfield 59, 3) := kDec_at dA84_cX9_keepFound 3 rfl
theorem dX9_keepFound_69 : decode cX9_keepFound 69 = .ok (.iconst 3, 1) := kDec_at dA84_cX9_keepFound 4 rfl
theorem dX9_keepFound_70 : decode cX9_keepFound 70 = .ok (.imul, 1) := kDec_at dA84_cX9_keepFound 5 rfl
theorem dX9_keepFound_71 : decode cX9_keepFound 71 = .ok (.iload_n 2, 1) := kDec_at dA84_cX9_keepFound 6 rfl
theorem dX9_keepFound_72 : decode cX9_keepFound 72 = .ok (.iadd, 1) := kDec_at dA84_cX9_keepFound 7 rfl
theorem dX9_keepFound_73 : decode cX9_keepFound 73 = .ok (.aload_n 0, 1) := kDec_at dA84_cX9_keepFound 8 rfl
theorem dX9_keepFound_74 : decode cX9_keepFound 74 = .ok (.getfield 33, 3) := kDec_at dA84_cX9_keepFound 9 rfl
theorem dX9_keepFound_77 : decode cX9_keepFound 77 = .ok (.iload_n 1, 1) := kDec_at dA84_cX9_keepFound 10 rfl
theorem dX9_keepFound_78 : decode cX9_keepFound 78 = .ok (.iconst 3, 1) := kDec_at dA84_cX9_keepFound 11 rfl
theorem dX9_keepFound_79 : decode cX9_keepFound 79 = .ok (.imul, 1) := kDec_at dA84_cX9_keepFound 12 rfl
theorem dX9_keepFound_80 : decode cX9_keepFound 80 = .ok (.iload_n 2, 1) := kDec_at dA84_cX9_keepFound 13 rfl
theorem dX9_keepFound_81 : decode cX9_keepFound 81 = .ok (.iadd, 1) := kDec_at dA84_cX9_keepFound 14 rfl
theorem dX9_keepFound_82 : decode cX9_keepFound 82 = .ok (.iaload, 1) := kDec_at dA84_cX9_keepFound 15 rfl
theorem dX9_keepFound_83 : decode cX9_keepFound 83 = .ok (.iastore, 1) := kDec_at dA84_cX9_keepFound 16 rfl
theorem dX9_keepFound_84 : decode cX9_keepFound 84 = .ok (.iinc 2 1, 3) := kDec_at dA84_cX9_keepFound 17 rfl
theorem dX9_keepFound_87 : decode cX9_keepFound 87 = .ok (.goto (-31), 3) := kDec_at dA84_cX9_keepFound 18 rfl
set_option maxRecDepth 100000 in
theorem dA85_cX9_told : kDec cX9_told [(0, .iload_n 1, 1), (1, .ifCond .lt 11, 3), (12, .iconst (-1), 1), (13, .ireturn, 1), (4, .iload_n 1, 1), (5, .aload_n 0, 1), (6, .getfield 59, 3), (9, .if_icmp .lt 5, 3), (14, .iload_n 1, 1), (15, .iconst 3, 1), (16, .imul, 1), (17, .istore_n 3, 1), (18, .iload_n 2, 1), (19, .tableswitch 110 0 5 #[37, 71, 78, 87, 96, 103], 37), (56, .aload_n 0, 1), (57, .getfield 42, 3), (60, .iload_n 3, 1), (61, .iconst 1, 1), (62, .iadd, 1), (63, .iaload, 1), (64, .iconst (-1), 1), (65, .if_icmp .ne 7, 3), (72, .aload_n 0, 1), (73, .getfield 42, 3)] = true := by decide +kernel
theorem dX9_told_0 : decode cX9_told 0 = .ok (.iload_n 1, 1) := kDec_at dA85_cX9_told 0 rfl
theorem dX9_told_1 : decode cX9_told 1 = .ok (.ifCond .lt 11, 3) := kDec_at dA85_cX9_told 1 rfl
theorem dX9_told_12 : decode cX9_told 12 = .ok (.iconst (-1), 1) := kDec_at dA85_cX9_told 2 rfl
theorem dX9_told_13 : decode cX9_told 13 = .ok (.ireturn, 1) := kDec_at dA85_cX9_told 3 rfl
theorem dX9_told_4 : decode cX9_told 4 = .ok (.iload_n 1, 1) := kDec_at dA85_cX9_told 4 rfl
theorem dX9_told_5 : decode cX9_told 5 = .ok (.aload_n 0, 1) := kDec_at dA85_cX9_told 5 rfl
theorem dX9_told_6 : decode cX9_told 6 = .ok (.getfield 59, 3) := kDec_at dA85_cX9_told 6 rfl
theorem dX9_told_9 : decode cX9_told 9 = .ok (.if_icmp .lt 5, 3) := kDec_at dA85_cX9_told 7 rfl
theorem dX9_told_14 : decode cX9_told 14 = .ok (.iload_n 1, 1) := kDec_at dA85_cX9_told 8 rfl
theorem dX9_told_15 : decode cX9_told 15 = .ok (.iconst 3, 1) := kDec_at dA85_cX9_told 9 rfl
theorem dX9_told_16 : decode cX9_told 16 = .ok (.imul, 1) := kDec_at dA85_cX9_told 10 rfl
theorem dX9_told_17 : decode cX9_told 17 = .ok (.istore_n 3, 1) := kDec_at dA85_cX9_told 11 rfl
theorem dX9_told_18 : decode cX9_told 18 = .ok (.iload_n 2, 1) := kDec_at dA85_cX9_told 12 rfl
theorem dX9_told_19 : decode cX9_told 19 = .ok (.tableswitch 110 0 5 #[37, 71, 78, 87, 96, 103], 37) := kDec_at dA85_cX9_told 13 rfl
theorem dX9_told_56 : decode cX9_told 56 = .ok (.aload_n 0, 1) := kDec_at dA85_cX9_told 14 rfl
theorem dX9_told_57 : decode cX9_told 57 = .ok (.getfield 42, 3) := kDec_at dA85_cX9_told 15 rfl
theorem dX9_told_60 : decode cX9_told 60 = .ok (.iload_n 3, 1) := kDec_at dA85_cX9_told 16 rfl
theorem dX9_told_61 : decode cX9_told 61 = .ok (.iconst 1, 1) := kDec_at dA85_cX9_told 17 rfl
theorem dX9_told_62 : decode cX9_told 62 = .ok (.iadd, 1) := kDec_at dA85_cX9_told 18 rfl
theorem dX9_told_63 : decode cX9_told 63 = .ok (.iaload, 1) := kDec_at dA85_cX9_told 19 rfl
theorem dX9_told_64 : decode cX9_told 64 = .ok (.iconst (-1), 1) := kDec_at dA85_cX9_told 20 rfl
theorem dX9_told_65 : decode cX9_told 65 = .ok (.if_icmp .ne 7, 3) := kDec_at dA85_cX9_told 21 rfl
theorem dX9_told_72 : decode cX9_told 72 = .ok (.aload_n 0, 1) := kDec_at dA85_cX9_told 22 rfl
theorem dX9_told_73 : decode cX9_told 73 = .ok (.getfield 42, 3) := kDec_at dA85_cX9_told 23 rfl
set_option maxRecDepth 100000 in
theorem dA86_cX9_told : kDec cX9_told [(76, .iload_n 3, 1), (77, .iconst 2, 1), (78, .iadd, 1), (79, .iaload, 1), (80, .iconst (-1), 1), (81, .if_icmp .ne 7, 3), (88, .iconst 3, 1), (89, .ireturn, 1), (84, .iconst 2, 1), (85, .goto 4, 3), (68, .iconst 1, 1), (69, .goto 20, 3), (90, .aload_n 0, 1), (91, .getfield 42, 3), (94, .iload_n 3, 1), (95, .iaload, 1), (96, .ireturn, 1), (97, .aload_n 0, 1), (98, .getfield 42, 3), (101, .iload_n 3, 1), (102, .iconst 1, 1), (103, .iadd, 1), (104, .iaload, 1), (105, .ireturn, 1)] = true := by decide +kernel
theorem dX9_told_76 : decode cX9_told 76 = .ok (.iload_n 3, 1) := kDec_at dA86_cX9_told 0 rfl
theorem dX9_told_77 : decode cX9_told 77 = .ok (.iconst 2, 1) := kDec_at dA86_cX9_told 1 rfl
theorem dX9_told_78 : decode cX9_told 78 = .ok (.iadd, 1) := kDec_at dA86_cX9_told 2 rfl
theorem dX9_told_79 : decode cX9_told 79 = .ok (.iaload, 1) := kDec_at dA86_cX9_told 3 rfl
theorem dX9_told_80 : decode cX9_told 80 = .ok (.iconst (-1), 1) := kDec_at dA86_cX9_told 4 rfl
theorem dX9_told_81 : decode cX9_told 81 = .ok (.if_icmp .ne 7, 3) := kDec_at dA86_cX9_told 5 rfl
theorem dX9_told_88 : decode cX9_told 88 = .ok (.iconst 3, 1) := kDec_at dA86_cX9_told 6 rfl
theorem dX9_told_89 : decode cX9_told 89 = .ok (.ireturn, 1) := kDec_at dA86_cX9_told 7 rfl
theorem dX9_told_84 : decode cX9_told 84 = .ok (.iconst 2, 1) := kDec_at dA86_cX9_told 8 rfl
theorem dX9_told_85 : decode cX9_told 85 = .ok (.goto 4, 3) := kDec_at dA86_cX9_told 9 rfl
theorem dX9_told_68 : decode cX9_told 68 = .ok (.iconst 1, 1) := kDec_at dA86_cX9_told 10 rfl
theorem dX9_told_69 : decode cX9_told 69 = .ok (.goto 20, 3) := kDec_at dA86_cX9_told 11 rfl
theorem dX9_told_90 : decode cX9_told 90 = .ok (.aload_n 0, 1) := kDec_at dA86_cX9_told 12 rfl
theorem dX9_told_91 : decode cX9_told 91 = .ok (.getfield 42, 3) := kDec_at dA86_cX9_told 13 rfl
theorem dX9_told_94 : decode cX9_told 94 = .ok (.iload_n 3, 1) := kDec_at dA86_cX9_told 14 rfl
theorem dX9_told_95 : decode cX9_told 95 = .ok (.iaload, 1) := kDec_at dA86_cX9_told 15 rfl
theorem dX9_told_96 : decode cX9_told 96 = .ok (.ireturn, 1) := kDec_at dA86_cX9_told 16 rfl
theorem dX9_told_97 : decode cX9_told 97 = .ok (.aload_n 0, 1) := kDec_at dA86_cX9_told 17 rfl
theorem dX9_told_98 : decode cX9_told 98 = .ok (.getfield 42, 3) := kDec_at dA86_cX9_told 18 rfl
theorem dX9_told_101 : decode cX9_told 101 = .ok (.iload_n 3, 1) := kDec_at dA86_cX9_told 19 rfl
theorem dX9_told_102 : decode cX9_told 102 = .ok (.iconst 1, 1) := kDec_at dA86_cX9_told 20 rfl
theorem dX9_told_103 : decode cX9_told 103 = .ok (.iadd, 1) := kDec_at dA86_cX9_told 21 rfl
theorem dX9_told_104 : decode cX9_told 104 = .ok (.iaload, 1) := kDec_at dA86_cX9_told 22 rfl
theorem dX9_told_105 : decode cX9_told 105 = .ok (.ireturn, 1) := kDec_at dA86_cX9_told 23 rfl
set_option maxRecDepth 100000 in
theorem dA87_cX9_told : kDec cX9_told [(106, .aload_n 0, 1), (107, .getfield 42, 3), (110, .iload_n 3, 1), (111, .iconst 2, 1), (112, .iadd, 1), (113, .iaload, 1), (114, .ireturn, 1), (115, .aload_n 0, 1), (116, .getfield 36, 3), (119, .iload_n 1, 1), (120, .iaload, 1), (121, .ireturn, 1), (122, .aload_n 0, 1), (123, .getfield 39, 3), (126, .iload_n 1, 1), (127, .iaload, 1), (128, .ireturn, 1), (129, .iconst (-1), 1), (130, .ireturn, 1)] = true := by decide +kernel
theorem dX9_told_106 : decode cX9_told 106 = .ok (.aload_n 0, 1) := kDec_at dA87_cX9_told 0 rfl
theorem dX9_told_107 : decode cX9_told 107 = .ok (.getfield 42, 3) := kDec_at dA87_cX9_told 1 rfl
theorem dX9_told_110 : decode cX9_told 110 = .ok (.iload_n 3, 1) := kDec_at dA87_cX9_told 2 rfl
theorem dX9_told_111 : decode cX9_told 111 = .ok (.iconst 2, 1) := kDec_at dA87_cX9_told 3 rfl
theorem dX9_told_112 : decode cX9_told 112 = .ok (.iadd, 1) := kDec_at dA87_cX9_told 4 rfl
theorem dX9_told_113 : decode cX9_told 113 = .ok (.iaload, 1) := kDec_at dA87_cX9_told 5 rfl
theorem dX9_told_114 : decode cX9_told 114 = .ok (.ireturn, 1) := kDec_at dA87_cX9_told 6 rfl
theorem dX9_told_115 : decode cX9_told 115 = .ok (.aload_n 0, 1) := kDec_at dA87_cX9_told 7 rfl
theorem dX9_told_116 : decode cX9_told 116 = .ok (.getfield 36, 3) := kDec_at dA87_cX9_told 8 rfl
theorem dX9_told_119 : decode cX9_told 119 = .ok (.iload_n 1, 1) := kDec_at dA87_cX9_told 9 rfl
theorem dX9_told_120 : decode cX9_told 120 = .ok (.iaload, 1) := kDec_at dA87_cX9_told 10 rfl
theorem dX9_told_121 : decode cX9_told 121 = .ok (.ireturn, 1) := kDec_at dA87_cX9_told 11 rfl
theorem dX9_told_122 : decode cX9_told 122 = .ok (.aload_n 0, 1) := kDec_at dA87_cX9_told 12 rfl
theorem dX9_told_123 : decode cX9_told 123 = .ok (.getfield 39, 3) := kDec_at dA87_cX9_told 13 rfl
theorem dX9_told_126 : decode cX9_told 126 = .ok (.iload_n 1, 1) := kDec_at dA87_cX9_told 14 rfl
theorem dX9_told_127 : decode cX9_told 127 = .ok (.iaload, 1) := kDec_at dA87_cX9_told 15 rfl
theorem dX9_told_128 : decode cX9_told 128 = .ok (.ireturn, 1) := kDec_at dA87_cX9_told 16 rfl
theorem dX9_told_129 : decode cX9_told 129 = .ok (.iconst (-1), 1) := kDec_at dA87_cX9_told 17 rfl
theorem dX9_told_130 : decode cX9_told 130 = .ok (.ireturn, 1) := kDec_at dA87_cX9_told 18 rfl

end

/-! 30.rows -/
section
set_option maxHeartbeats 40000000 in
set_option maxRecDepth 100000 in
theorem m_X9_nameHarms (l : Launch) (dC : Nat → ClassId) (dI : Nat → Nat → Nat) (cI cS : ClassId) (sz : Nat) (oR : Nat) (oH : Nat) (oK : Nat) (n1 : Nat) (n2 : Nat) (n3 : Nat) (r1 : Nat) (r2 : Nat) (r3 : Nat) (r4 : Nat) (r5 : Nat) (r6 : Nat) (lR : Int32) (fR3 : Nat → Int32) (pl : Int32) (a : Int32) (b : Int32) (d : Int32) (g_lR : 0 ≤ lR.toInt ∧ lR.toInt ≤ 258) : kMv l yX9_nameHarms wsX9_nameHarms ({ frames := 0, cells := 0, slots := 0, locals := 0 } : Room) [.ref oR, .int pl, .int a, .int b, .int d] sz (dC, dI) vwCl [(cI, .int), (cS, .short)] [(oR, .inr (9, [.ref oH, .ref oK, .ref n1, .ref n2, .ref n3, .ref r1, .ref r2, .ref r3, .ref r4, .ref r5, .ref r6, .int lR])), (r3, .inl (cI, 774, .inl fR3))] (fun _ => True) 0 0 (fun (A : Nat → Prop) (hh9 : Heap) => ∃ (fR3' : Nat → Int32), kPD (dC, dI) vwCl A [(oR, .inr (9, [.ref oH, .ref oK, .ref n1, .ref n2, .ref n3, .ref r1, .ref r2, .ref r3, .ref r4, .ref r5, .ref r6, .int lR])), (r3, .inl (cI, 774, .inl fR3'))] hh9) := by
  refine kMv_of (cc := cX9_nameHarms) (maxL := 5) (ret := none) (lv := [(0, .ref oR), (1, .int pl), (2, .int a), (3, .int b), (4, .int d)]) (by decide +kernel) rfl rfl (Nat.le_of_ble_eq_true rfl) ?_
  intro p e s m below meth c A QQ ls hx hb hr hts hml hown hlocks hA hQQ hK hX hP hD hS hl
  have hown : s.vm.findClass RX9 = some m.cls := hown
  have hcf := k_cf hx hb hml hown hts
  have in_X9 : ∀ w ∈ wsX90, w ∈ wsX9_nameHarms := fun _ h => List.mem_cons_of_mem _ (List.mem_append_right _ (h))
  refine lv_iload_n hx hb dX9_nameHarms_0 rfl (lv_at hl 1 rfl) ?_
  refine lv_if_lt (tgt := 43) hx hb dX9_nameHarms_1 (by decide) (fun c_1 => ?_) (fun c_1 => ?_)
  · have tc_1 : pl.toInt < 0 := v_lt c_1
    exact kl_v hQQ hx hb hr hlocks hS dX9_nameHarms_43 ⟨fR3, ⟨hP, hD⟩⟩
  · have tc_1 : 0 ≤ pl.toInt := v_nlt c_1
    refine lv_iload_n hx hb dX9_nameHarms_4 rfl (lv_at hl 1 rfl) ?_
    refine lv_sipush (v := 258) hx hb dX9_nameHarms_5 (by decide) ?_
    refine lv_icmp_ge (tgt := 43) hx hb dX9_nameHarms_8 (by decide) (fun c_2 => ?_) (fun c_2 => ?_)
    · have tc_2 : 258 ≤ pl.toInt := v_le c_2
      exact kl_v hQQ hx hb hr hlocks hS dX9_nameHarms_43 ⟨fR3, ⟨hP, hD⟩⟩
    · have tc_2 : pl.toInt < 258 := v_nle c_2
      refine lv_aload_n hx hb dX9_nameHarms_11 rfl (lv_at hl 0 rfl) ?_
      refine va_get (D := (dC, dI)) (ci := 9) (v := .ref r3) (C := RX9) (T := TX9) (N := 12) hx hb hts in_X9 hown hK hP 0 rfl rfl 7 (by decide) (hts (.fieldLink RX9 33 "TextMender$Rows" "foundHarms" "[I") (List.mem_of_getElem? (i := 1) rfl)) (fun _ h9 => h9) rfl dX9_nameHarms_12 ?_
      refine lv_iload_n hx hb dX9_nameHarms_15 rfl (lv_at hl 1 rfl) ?_
      refine lv_iconst (v := 3) hx hb dX9_nameHarms_16 (by decide) ?_
      refine lv_imul hx hb dX9_nameHarms_17 ?_
      refine lv_topi (fun x_3 ex_3 => ?_)
      have tx_3 : x_3.toInt = pl.toInt * 3 := v_mul ex_3 (by show -2147483648 ≤ pl.toInt * 3; omega) (by show pl.toInt * 3 < 2147483648; omega)
      refine lv_iload_n hx hb dX9_nameHarms_18 rfl (lv_at hl 2 rfl) ?_
      obtain ⟨f_4, ef_4⟩ : ∃ g : Nat → Int32, g = upd fR3 (x_3 : Int32).toNatClampNeg a := ⟨_, rfl⟩
      refine va_iast hx hb hK hP hD hS 1 0 rfl rfl (v_in (by omega)) dX9_nameHarms_19 (kWf (g := f_4) (F := fun f_4 => [(oR, .inr (9, [.ref oH, .ref oK, .ref n1, .ref n2, .ref n3, .ref r1, .ref r2, .ref r3, .ref r4, .ref r5, .ref r6, .int lR])), (r3, .inl (cI, 774, .inl f_4))]) ef_4 rfl (fun H locs hPn hDn hSn => ?_))
      clear hP hD hS
      have hP := hPn
      have hD := hDn
      have hS := hSn
      clear hPn hDn hSn
      refine lv_aload_n hx hb dX9_nameHarms_20 rfl (lv_at hl 0 rfl) ?_
      refine va_get (D := (dC, dI)) (ci := 9) (v := .ref r3) (C := RX9) (T := TX9) (N := 12) hx hb hts in_X9 hown hK hP 0 rfl rfl 7 (by decide) (hts (.fieldLink RX9 33 "TextMender$Rows" "foundHarms" "[I") (List.mem_of_getElem? (i := 1) rfl)) (fun _ h9 => h9) rfl dX9_nameHarms_21 ?_
      refine lv_iload_n hx hb dX9_nameHarms_24 rfl (lv_at hl 1 rfl) ?_
      refine lv_iconst (v := 3) hx hb dX9_nameHarms_25 (by decide) ?_
      refine lv_imul hx hb dX9_nameHarms_26 ?_
      refine lv_topi (fun x_5 ex_5 => ?_)
      have tx_5 : x_5.toInt = pl.toInt * 3 := v_mul ex_5 (by show -2147483648 ≤ pl.toInt * 3; omega) (by show pl.toInt * 3 < 2147483648; omega)
      refine lv_iconst (v := 1) hx hb dX9_nameHarms_27 (by decide) ?_
      refine lv_iadd hx hb dX9_nameHarms_28 ?_
      refine lv_topi (fun x_6 ex_6 => ?_)
      have tx_6 : x_6.toInt = x_5.toInt + 1 := v_add ex_6 (by show -2147483648 ≤ x_5.toInt + 1; omega) (by show x_5.toInt + 1 < 2147483648; omega)
      refine lv_iload_n hx hb dX9_nameHarms_29 rfl (lv_at hl 3 rfl) ?_
      obtain ⟨f_7, ef_7⟩ : ∃ g : Nat → Int32, g = upd f_4 (x_6 : Int32).toNatClampNeg b := ⟨_, rfl⟩
      refine va_iast hx hb hK hP hD hS 1 0 rfl rfl (v_in (by omega)) dX9_nameHarms_30 (kWf (g := f_7) (F := fun f_7 => [(oR, .inr (9, [.ref oH, .ref oK, .ref n1, .ref n2, .ref n3, .ref r1, .ref r2, .ref r3, .ref r4, .ref r5, .ref r6, .int lR])), (r3, .inl (cI, 774, .inl f_7))]) ef_7 rfl (fun H locs hPn hDn hSn => ?_))
      clear hP hD hS
      have hP := hPn
      have hD := hDn
      have hS := hSn
      clear hPn hDn hSn
      refine lv_aload_n hx hb dX9_nameHarms_31 rfl (lv_at hl 0 rfl) ?_
      refine va_get (D := (dC, dI)) (ci := 9) (v := .ref r3) (C := RX9) (T := TX9) (N := 12) hx hb hts in_X9 hown hK hP 0 rfl rfl 7 (by decide) (hts (.fieldLink RX9 33 "TextMender$Rows" "foundHarms" "[I") (List.mem_of_getElem? (i := 1) rfl)) (fun _ h9 => h9) rfl dX9_nameHarms_32 ?_
      refine lv_iload_n hx hb dX9_nameHarms_35 rfl (lv_at hl 1 rfl) ?_
      refine lv_iconst (v := 3) hx hb dX9_nameHarms_36 (by decide) ?_
      refine lv_imul hx hb dX9_nameHarms_37 ?_
      refine lv_topi (fun x_8 ex_8 => ?_)
      have tx_8 : x_8.toInt = pl.toInt * 3 := v_mul ex_8 (by show -2147483648 ≤ pl.toInt * 3; omega) (by show pl.toInt * 3 < 2147483648; omega)
      refine lv_iconst (v := 2) hx hb dX9_nameHarms_38 (by decide) ?_
      refine lv_iadd hx hb dX9_nameHarms_39 ?_
      refine lv_topi (fun x_9 ex_9 => ?_)
      have tx_9 : x_9.toInt = x_8.toInt + 2 := v_add ex_9 (by show -2147483648 ≤ x_8.toInt + 2; omega) (by show x_8.toInt + 2 < 2147483648; omega)
      refine lv_iload hx hb dX9_nameHarms_40 (lv_at hl 4 rfl) ?_
      obtain ⟨f_10, ef_10⟩ : ∃ g : Nat → Int32, g = upd f_7 (x_9 : Int32).toNatClampNeg d := ⟨_, rfl⟩
      refine va_iast hx hb hK hP hD hS 1 0 rfl rfl (v_in (by omega)) dX9_nameHarms_42 (kWf (g := f_10) (F := fun f_10 => [(oR, .inr (9, [.ref oH, .ref oK, .ref n1, .ref n2, .ref n3, .ref r1, .ref r2, .ref r3, .ref r4, .ref r5, .ref r6, .int lR])), (r3, .inl (cI, 774, .inl f_10))]) ef_10 rfl (fun H locs hPn hDn hSn => ?_))
      clear hP hD hS
      have hP := hPn
      have hD := hDn
      have hS := hSn
      clear hPn hDn hSn
      exact kl_v hQQ hx hb hr hlocks hS dX9_nameHarms_43 ⟨f_10, ⟨hP, hD⟩⟩

set_option maxHeartbeats 40000000 in
set_option maxRecDepth 100000 in
theorem m_X9_note (l : Launch) (dC : Nat → ClassId) (dI : Nat → Nat → Nat) (cI cS : ClassId) (sz : Nat) (oR : Nat) (nx : Nat) (oH : Nat) (oK : Nat) (n1 : Nat) (n2 : Nat) (n3 : Nat) (r1 : Nat) (r2 : Nat) (r3 : Nat) (r4 : Nat) (r5 : Nat) (r6 : Nat) (k1 : Nat) (k2 : Nat) (ax : Nat) (lR : Int32) (fR1 : Nat → Int32) (fR2 : Nat → Int32) (lK : Int32) (fK1 : Nat → Int32) (fK2 : Nat → Int32) (lx : Int32) (fx : Nat → Int32) (pl : Int32) (g_lR : 0 ≤ lR.toInt ∧ lR.toInt ≤ 258) (g_lK : 0 ≤ lK.toInt ∧ lK.toInt ≤ 300) (g_lx : 0 ≤ lx.toInt ∧ lx.toInt ≤ 300) : kMv l yX9_note wsX9_note ({ frames := 4, cells := 0, slots := 0, locals := 98 } : Room) [.ref oR, .int pl, .ref nx] sz (dC, dI) vwCl [(cI, .int), (cS, .short)] [(oR, .inr (9, [.ref oH, .ref oK, .ref n1, .ref n2, .ref n3, .ref r1, .ref r2, .ref r3, .ref r4, .ref r5, .ref r6, .int lR])), (r1, .inl (cI, 258, .inl fR1)), (r2, .inl (cI, 258, .inl fR2)), (oK, .inr (3, [.ref k1, .ref k2, .int lK])), (k1, .inl (cI, 1024, .inl fK1)), (k2, .inl (cI, 1024, .inl fK2)), (nx, .inr (5, [.ref ax, .int lx])), (ax, .inl (cI, 300, .inl fx))] (fun _ => True) 0 0 (fun (A : Nat → Prop) (hh9 : Heap) => ∃ (fR1' : Nat → Int32) (fR2' : Nat → Int32), kPD (dC, dI) vwCl A [(oR, .inr (9, [.ref oH, .ref oK, .ref n1, .ref n2, .ref n3, .ref r1, .ref r2, .ref r3, .ref r4, .ref r5, .ref r6, .int lR])), (r1, .inl (cI, 258, .inl fR1')), (r2, .inl (cI, 258, .inl fR2')), (oK, .inr (3, [.ref k1, .ref k2, .int lK])), (k1, .inl (cI, 1024, .inl fK1)), (k2, .inl (cI, 1024, .inl fK2)), (nx, .inr (5, [.ref ax, .int lx])), (ax, .inl (cI, 300, .inl fx))] hh9) := by
  refine kMv_of (cc := cX9_note) (maxL := 3) (ret := none) (lv := [(0, .ref oR), (1, .int pl), (2, .ref nx)]) (by decide +kernel) rfl rfl (Nat.le_of_ble_eq_true rfl) ?_
  intro p e s m below meth c A QQ ls hx hb hr hts hml hown hlocks hA hQQ hK hX hP hD hS hl
  have hown : s.vm.findClass RX9 = some m.cls := hown
  have hcf := k_cf hx hb hml hown hts
  have in_X9 : ∀ w ∈ wsX90, w ∈ wsX9_note := fun _ h => List.mem_cons_of_mem _ (List.mem_append_left _ (List.mem_append_left _ (List.mem_append_right _ (h))))
  refine lv_iload_n hx hb dX9_note_0 rfl (lv_at hl 1 rfl) ?_
  refine lv_if_lt (tgt := 35) hx hb dX9_note_1 (by decide) (fun c_1 => ?_) (fun c_1 => ?_)
  · have tc_1 : pl.toInt < 0 := v_lt c_1
    exact kl_v hQQ hx hb hr hlocks hS dX9_note_35 ⟨fR1, fR2, ⟨hP, hD⟩⟩
  · have tc_1 : 0 ≤ pl.toInt := v_nlt c_1
    refine lv_iload_n hx hb dX9_note_4 rfl (lv_at hl 1 rfl) ?_
    refine lv_sipush (v := 258) hx hb dX9_note_5 (by decide) ?_
    refine lv_icmp_ge (tgt := 35) hx hb dX9_note_8 (by decide) (fun c_2 => ?_) (fun c_2 => ?_)
    · have tc_2 : 258 ≤ pl.toInt := v_le c_2
      exact kl_v hQQ hx hb hr hlocks hS dX9_note_35 ⟨fR1, fR2, ⟨hP, hD⟩⟩
    · have tc_2 : pl.toInt < 258 := v_nle c_2
      refine lv_aload_n hx hb dX9_note_11 rfl (lv_at hl 0 rfl) ?_
      refine va_get (D := (dC, dI)) (ci := 9) (v := .ref r1) (C := RX9) (T := TX9) (N := 12) hx hb hts in_X9 hown hK hP 0 rfl rfl 5 (by decide) (hts (.fieldLink RX9 26 "TextMender$Rows" "foundCost" "[I") (List.mem_of_getElem? (i := 1) rfl)) (fun _ h9 => h9) rfl dX9_note_12 ?_
      refine lv_iload_n hx hb dX9_note_15 rfl (lv_at hl 1 rfl) ?_
      refine lv_aload_n hx hb dX9_note_16 rfl (lv_at hl 0 rfl) ?_
      refine va_get (D := (dC, dI)) (ci := 9) (v := .ref oK) (C := RX9) (T := TX9) (N := 12) hx hb hts in_X9 hown hK hP 0 rfl rfl 1 (by decide) (hts (.fieldLink RX9 49 "TextMender$Rows" "costs" "LTextMender$Costs;") (List.mem_of_getElem? (i := 2) rfl)) (fun _ h9 => h9) rfl dX9_note_17 ?_
      refine lv_aload_n hx hb dX9_note_20 rfl (lv_at hl 2 rfl) ?_
      refine kV_i (rest := [.int pl, .ref r1]) (q0 := 0) (ci := 3) hcf (m_X3_ofText l dC dI cI cS s.heap.size oK nx k1 k2 ax lK fK1 fK2 lx fx (g_lK) (g_lx)) kc_X3_ofText gX9_note_X3_ofText rfl rfl rfl ⟨Nat.le_of_ble_eq_true rfl, Nat.le_of_ble_eq_true rfl⟩ kX_t hK hP hD hS hA [3, 4, 5, 6, 7] [0, 1, 2] rfl (by decide +kernel) rfl rfl rfl hl rfl (Nat.le_of_ble_eq_true rfl) dX9_note_21 ⟨Nat.le_of_ble_eq_true rfl, Nat.le_of_ble_eq_true rfl⟩ (fun r_3 H locs hB hJ hSn => ?_)
      obtain ⟨hP1, hD1⟩ := hB
      obtain ⟨hPn, hDn⟩ := hJ _ hP1 hD1 [(oR, .inr (9, [.ref oH, .ref oK, .ref n1, .ref n2, .ref n3, .ref r1, .ref r2, .ref r3, .ref r4, .ref r5, .ref r6, .int lR])), (r1, .inl (cI, 258, .inl fR1)), (r2, .inl (cI, 258, .inl fR2)), (oK, .inr (3, [.ref k1, .ref k2, .int lK])), (k1, .inl (cI, 1024, .inl fK1)), (k2, .inl (cI, 1024, .inl fK2)), (nx, .inr (5, [.ref ax, .int lx])), (ax, .inl (cI, 300, .inl fx))] rfl
      clear hP hD hS hJ hP1 hD1
      have hP := hPn
      have hD := hDn
      have hS := hSn
      clear hPn hDn hSn
      obtain ⟨f_4, ef_4⟩ : ∃ g : Nat → Int32, g = upd fR1 (pl : Int32).toNatClampNeg r_3 := ⟨_, rfl⟩
      refine va_iast hx hb hK hP hD hS 1 0 rfl rfl (v_in (by omega)) dX9_note_24 (kWf (g := f_4) (F := fun f_4 => [(oR, .inr (9, [.ref oH, .ref oK, .ref n1, .ref n2, .ref n3, .ref r1, .ref r2, .ref r3, .ref r4, .ref r5, .ref r6, .int lR])), (r1, .inl (cI, 258, .inl f_4)), (r2, .inl (cI, 258, .inl fR2)), (oK, .inr (3, [.ref k1, .ref k2, .int lK])), (k1, .inl (cI, 1024, .inl fK1)), (k2, .inl (cI, 1024, .inl fK2)), (nx, .inr (5, [.ref ax, .int lx])), (ax, .inl (cI, 300, .inl fx))]) ef_4 rfl (fun H locs hPn hDn hSn => ?_))
      clear hP hD hS
      have hP := hPn
      have hD := hDn
      have hS := hSn
      clear hPn hDn hSn
      refine lv_aload_n hx hb dX9_note_25 rfl (lv_at hl 0 rfl) ?_
      refine va_get (D := (dC, dI)) (ci := 9) (v := .ref r2) (C := RX9) (T := TX9) (N := 12) hx hb hts in_X9 hown hK hP 0 rfl rfl 6 (by decide) (hts (.fieldLink RX9 30 "TextMender$Rows" "foundLength" "[I") (List.mem_of_getElem? (i := 3) rfl)) (fun _ h9 => h9) rfl dX9_note_26 ?_
      refine lv_iload_n hx hb dX9_note_29 rfl (lv_at hl 1 rfl) ?_
      refine lv_aload_n hx hb dX9_note_30 rfl (lv_at hl 2 rfl) ?_
      refine kV_i (rest := [.int pl, .ref r2]) (q0 := 0) (ci := 5) hcf (m_X5_length l dC dI cI cS H.size nx ax lx ) kc_X5_length gX9_note_X5_length rfl rfl rfl ⟨Nat.le_of_ble_eq_true rfl, Nat.le_of_ble_eq_true rfl⟩ kX_t hK hP hD hS hA [6] [0, 1, 2, 3, 4, 5, 7] rfl (by decide +kernel) rfl rfl rfl hl rfl (Nat.le_of_ble_eq_true rfl) dX9_note_31 ⟨Nat.le_of_ble_eq_true rfl, Nat.le_of_ble_eq_true rfl⟩ (fun r_5 H locs hB hJ hSn => ?_)
      obtain ⟨⟨hP1, hD1⟩, hf5_0⟩ := hB
      obtain ⟨hPn, hDn⟩ := hJ _ hP1 hD1 [(oR, .inr (9, [.ref oH, .ref oK, .ref n1, .ref n2, .ref n3, .ref r1, .ref r2, .ref r3, .ref r4, .ref r5, .ref r6, .int lR])), (r1, .inl (cI, 258, .inl f_4)), (r2, .inl (cI, 258, .inl fR2)), (oK, .inr (3, [.ref k1, .ref k2, .int lK])), (k1, .inl (cI, 1024, .inl fK1)), (k2, .inl (cI, 1024, .inl fK2)), (ax, .inl (cI, 300, .inl fx)), (nx, .inr (5, [.ref ax, .int lx]))] rfl
      clear hP hD hS hJ hP1 hD1
      have hP := hPn
      have hD := hDn
      have hS := hSn
      clear hPn hDn hSn
      rw [hf5_0]
      obtain ⟨f_6, ef_6⟩ : ∃ g : Nat → Int32, g = upd fR2 (pl : Int32).toNatClampNeg lx := ⟨_, rfl⟩
      refine va_iast hx hb hK hP hD hS 2 0 rfl rfl (v_in (by omega)) dX9_note_34 (kWf (g := f_6) (F := fun f_6 => [(oR, .inr (9, [.ref oH, .ref oK, .ref n1, .ref n2, .ref n3, .ref r1, .ref r2, .ref r3, .ref r4, .ref r5, .ref r6, .int lR])), (r1, .inl (cI, 258, .inl f_4)), (r2, .inl (cI, 258, .inl f_6)), (oK, .inr (3, [.ref k1, .ref k2, .int lK])), (k1, .inl (cI, 1024, .inl fK1)), (k2, .inl (cI, 1024, .inl fK2)), (ax, .inl (cI, 300, .inl fx)), (nx, .inr (5, [.ref ax, .int lx]))]) ef_6 rfl (fun H locs hPn hDn hSn => ?_))
      clear hP hD hS
      have hP := hPn
      have hD := hDn
      have hS := hSn
      clear hPn hDn hSn
      exact kl_v hQQ hx hb hr hlocks hS dX9_note_35 ⟨f_4, f_6, kPD_sub hP hD [0, 1, 2, 3, 4, 5, 7, 6] (by decide +kernel) rfl⟩

set_option maxHeartbeats 40000000 in
set_option maxRecDepth 100000 in
theorem m_X9_find (l : Launch) (dC : Nat → ClassId) (dI : Nat → Nat → Nat) (cI cS : ClassId) (sz : Nat) (oR : Nat) (nx : Nat) (oH : Nat) (oK : Nat) (n1 : Nat) (n2 : Nat) (n3 : Nat) (r1 : Nat) (r2 : Nat) (r3 : Nat) (r4 : Nat) (r5 : Nat) (r6 : Nat) (a1 : Nat) (a2 : Nat) (a3 : Nat) (oP : Nat) (h1 : Nat) (h2 : Nat) (oC : Nat) (nB : Nat) (aB : Nat) (o4 : Nat) (o5 : Nat) (a41 : Nat) (a42 : Nat) (a43 : Nat) (a51 : Nat) (a52 : Nat) (a53 : Nat) (k1 : Nat) (k2 : Nat) (ax : Nat) (lR : Int32) (fR1 : Nat → Int32) (fR2 : Nat → Int32) (fR3 : Nat → Int32) (l1 : Int32) (f1 : Nat → Int32) (l2 : Int32) (f2 : Nat → Int32) (l3 : Int32) (f3 : Nat → Int32) (lH : Int32) (fH1 : Nat → Int32) (fH2 : Nat → Int32) (ft : Int32) (lB : Int32) (fB : Nat → Int32) (l4 : Int32) (f41 : Nat → Int32) (f42 : Nat → Int32) (f43 : Nat → Int32) (l5 : Int32) (f51 : Nat → Int32) (f52 : Nat → Int32) (f53 : Nat → Int32) (lK : Int32) (fK1 : Nat → Int32) (fK2 : Nat → Int32) (lx : Int32) (fx : Nat → Int32) (n : Int32) (g_lR : 0 ≤ lR.toInt ∧ lR.toInt ≤ 258) (g_l1 : 0 ≤ l1.toInt ∧ l1.toInt ≤ 300) (g_l2 : 0 ≤ l2.toInt ∧ l2.toInt ≤ 300) (g_l3 : 0 ≤ l3.toInt ∧ l3.toInt ≤ 300) (g_lH : 0 ≤ lH.toInt ∧ lH.toInt ≤ 6) (g_lB : 0 ≤ lB.toInt ∧ lB.toInt ≤ 2400) (g_lK : 0 ≤ lK.toInt ∧ lK.toInt ≤ 300) (g_lx : 0 ≤ lx.toInt ∧ lx.toInt ≤ 300) : kMv l yX9_find wsX9_find ({ frames := 6, cells := 0, slots := 0, locals := 147 } : Room) [.ref oR, .int n, .ref nx] sz (dC, dI) vwCl [(cI, .int), (cS, .short)] [(oR, .inr (9, [.ref oH, .ref oK, .ref n1, .ref n2, .ref n3, .ref r1, .ref r2, .ref r3, .ref r4, .ref r5, .ref r6, .int lR])), (r1, .inl (cI, 258, .inl fR1)), (r2, .inl (cI, 258, .inl fR2)), (r3, .inl (cI, 774, .inl fR3)), (n1, .inr (5, [.ref a1, .int l1])), (a1, .inl (cI, 300, .inl f1)), (n2, .inr (5, [.ref a2, .int l2])), (a2, .inl (cI, 300, .inl f2)), (n3, .inr (5, [.ref a3, .int l3])), (a3, .inl (cI, 300, .inl f3)), (oH, .inr (4, [.ref oP, .ref h1, .ref h2, .int lH])), (h1, .inl (cI, 6, .inl fH1)), (h2, .inl (cI, 6, .inl fH2)), (oP, .inr (7, [.ref oC, .ref nB, .int ft])), (nB, .inr (5, [.ref aB, .int lB])), (aB, .inl (cI, 2400, .inl fB)), (oC, .inr (2, [.ref o4, .ref o5])), (o4, .inr (10, [.ref a41, .ref a42, .ref a43, .int l4])), (a41, .inl (cI, 256, .inl f41)), (a42, .inl (cI, 512, .inl f42)), (a43, .inl (cI, 512, .inl f43)), (o5, .inr (10, [.ref a51, .ref a52, .ref a53, .int l5])), (a51, .inl (cI, 256, .inl f51)), (a52, .inl (cI, 512, .inl f52)), (a53, .inl (cI, 512, .inl f53)), (oK, .inr (3, [.ref k1, .ref k2, .int lK])), (k1, .inl (cI, 1024, .inl fK1)), (k2, .inl (cI, 1024, .inl fK2)), (nx, .inr (5, [.ref ax, .int lx])), (ax, .inl (cI, 300, .inl fx))] (va_Nw (.methodLinkNest RX2 52 yX11_isLetter "TextMender")) 0 0 (fun (A : Nat → Prop) (hh9 : Heap) => ∃ (ft' : Int32) (lB' : Int32) (fB' : Nat → Int32) (l1' : Int32) (f1' : Nat → Int32) (l2' : Int32) (f2' : Nat → Int32) (l3' : Int32) (f3' : Nat → Int32) (fR1' : Nat → Int32) (fR2' : Nat → Int32) (fR3' : Nat → Int32), kPD (dC, dI) vwCl A [(oR, .inr (9, [.ref oH, .ref oK, .ref n1, .ref n2, .ref n3, .ref r1, .ref r2, .ref r3, .ref r4, .ref r5, .ref r6, .int lR])), (r1, .inl (cI, 258, .inl fR1')), (r2, .inl (cI, 258, .inl fR2')), (r3, .inl (cI, 774, .inl fR3')), (n1, .inr (5, [.ref a1, .int l1'])), (a1, .inl (cI, 300, .inl f1')), (n2, .inr (5, [.ref a2, .int l2'])), (a2, .inl (cI, 300, .inl f2')), (n3, .inr (5, [.ref a3, .int l3'])), (a3, .inl (cI, 300, .inl f3')), (oH, .inr (4, [.ref oP, .ref h1, .ref h2, .int lH])), (h1, .inl (cI, 6, .inl fH1)), (h2, .inl (cI, 6, .inl fH2)), (oP, .inr (7, [.ref oC, .ref nB, .int ft'])), (nB, .inr (5, [.ref aB, .int lB'])), (aB, .inl (cI, 2400, .inl fB')), (oC, .inr (2, [.ref o4, .ref o5])), (o4, .inr (10, [.ref a41, .ref a42, .ref a43, .int l4])), (a41, .inl (cI, 256, .inl f41)), (a42, .inl (cI, 512, .inl f42)), (a43, .inl (cI, 512, .inl f43)), (o5, .inr (10, [.ref a51, .ref a52, .ref a53, .int l5])), (a51, .inl (cI, 256, .inl f51)), (a52, .inl (cI, 512, .inl f52)), (a53, .inl (cI, 512, .inl f53)), (oK, .inr (3, [.ref k1, .ref k2, .int lK])), (k1, .inl (cI, 1024, .inl fK1)), (k2, .inl (cI, 1024, .inl fK2)), (nx, .inr (5, [.ref ax, .int lx])), (ax, .inl (cI, 300, .inl fx))] hh9 ∧ (0 ≤ lB'.toInt ∧ lB'.toInt ≤ 2400) ∧ (0 ≤ l1'.toInt ∧ l1'.toInt ≤ 300) ∧ (0 ≤ l2'.toInt ∧ l2'.toInt ≤ 300) ∧ (0 ≤ l3'.toInt ∧ l3'.toInt ≤ 300)) := by
  refine kMv_of (cc := cX9_find) (maxL := 9) (ret := none) (lv := [(0, .ref oR), (1, .int n), (2, .ref nx)]) (by decide +kernel) rfl rfl (Nat.le_of_ble_eq_true rfl) ?_
  intro p e s m below meth c A QQ ls hx hb hr hts hml hown hlocks hA hQQ hK hX hP hD hS hl
  have hown : s.vm.findClass RX9 = some m.cls := hown
  have hcf := k_cf hx hb hml hown hts
  have hN52 := hX
  have in_X9 : ∀ w ∈ wsX90, w ∈ wsX9_find := fun _ h => List.mem_cons_of_mem _ (List.mem_append_left _ (List.mem_append_left _ (List.mem_append_left _ (List.mem_append_left _ (List.mem_append_left _ (List.mem_append_left _ (List.mem_append_right _ (h))))))))
  replace g_lR := hid g_lR
  replace g_l1 := hid g_l1
  replace g_l2 := hid g_l2
  replace g_l3 := hid g_l3
  replace g_lB := hid g_lB
  replace g_lK := hid g_lK
  replace g_lx := hid g_lx
  refine lv_aload_n hx hb dX9_find_0 rfl (lv_at hl 0 rfl) ?_
  refine va_get (D := (dC, dI)) (ci := 9) (v := .ref r1) (C := RX9) (T := TX9) (N := 12) hx hb hts in_X9 hown hK hP 0 rfl rfl 5 (by decide) (hts (.fieldLink RX9 26 "TextMender$Rows" "foundCost" "[I") (List.mem_of_getElem? (i := 1) rfl)) (fun _ h9 => h9) rfl dX9_find_1 ?_
  refine lv_iconst (v := (-1)) hx hb dX9_find_4 (by decide) ?_
  refine kS_v (rest := []) hcf (m_J7_fill_53178 l dC dI cI cS s.heap.size r1 258 fR1 (-1) (by omega)) kc_J7_fill_53178 gX9_find_J7_fill_53178 rfl rfl ⟨Nat.le_of_ble_eq_true rfl, Nat.le_of_ble_eq_true rfl⟩ kX_t hK hP hD hS hA [1] [0, 2, 3, 4, 5, 6, 7, 8, 9, 10, 11, 12, 13, 14, 15, 16, 17, 18, 19, 20, 21, 22, 23, 24, 25, 26, 27, 28, 29] rfl (by decide +kernel) rfl hl rfl (Nat.le_of_ble_eq_true rfl) dX9_find_5 ⟨Nat.le_of_ble_eq_true rfl, Nat.le_of_ble_eq_true rfl⟩ (fun H locs hB hJ hSn => ?_)
  obtain ⟨f_1, ⟨hP1, hD1⟩, hf1_0⟩ := hB
  obtain ⟨hPn, hDn⟩ := hJ _ hP1 hD1 [(oR, .inr (9, [.ref oH, .ref oK, .ref n1, .ref n2, .ref n3, .ref r1, .ref r2, .ref r3, .ref r4, .ref r5, .ref r6, .int lR])), (r2, .inl (cI, 258, .inl fR2)), (r3, .inl (cI, 774, .inl fR3)), (n1, .inr (5, [.ref a1, .int l1])), (a1, .inl (cI, 300, .inl f1)), (n2, .inr (5, [.ref a2, .int l2])), (a2, .inl (cI, 300, .inl f2)), (n3, .inr (5, [.ref a3, .int l3])), (a3, .inl (cI, 300, .inl f3)), (oH, .inr (4, [.ref oP, .ref h1, .ref h2, .int lH])), (h1, .inl (cI, 6, .inl fH1)), (h2, .inl (cI, 6, .inl fH2)), (oP, .inr (7, [.ref oC, .ref nB, .int ft])), (nB, .inr (5, [.ref aB, .int lB])), (aB, .inl (cI, 2400, .inl fB)), (oC, .inr (2, [.ref o4, .ref o5])), (o4, .inr (10, [.ref a41, .ref a42, .ref a43, .int l4])), (a41, .inl (cI, 256, .inl f41)), (a42, .inl (cI, 512, .inl f42)), (a43, .inl (cI, 512, .inl f43)), (o5, .inr (10, [.ref a51, .ref a52, .ref a53, .int l5])), (a51, .inl (cI, 256, .inl f51)), (a52, .inl (cI, 512, .inl f52)), (a53, .inl (cI, 512, .inl f53)), (oK, .inr (3, [.ref k1, .ref k2, .int lK])), (k1, .inl (cI, 1024, .inl fK1)), (k2, .inl (cI, 1024, .inl fK2)), (nx, .inr (5, [.ref ax, .int lx])), (ax, .inl (cI, 300, .inl fx)), (r1, .inl (cI, 258, .inl f_1))] rfl
  clear hP hD hS hJ hP1 hD1
  have hP := hPn
  have hD := hDn
  have hS := hSn
  clear hPn hDn hSn
  refine lv_aload_n hx hb dX9_find_8 rfl (lv_at hl 0 rfl) ?_
  refine va_get (D := (dC, dI)) (ci := 9) (v := .ref oH) (C := RX9) (T := TX9) (N := 12) hx hb hts in_X9 hown hK hP 0 rfl rfl 0 (by decide) (hts (.fieldLink RX9 45 "TextMender$Rows" "harms" "LTextMender$Harms;") (List.mem_of_getElem? (i := 2) rfl)) (fun _ h9 => h9) rfl dX9_find_9 ?_
  refine kV_i (rest := []) (q0 := 0) (ci := 4) hcf (m_X4_length l dC dI cI cS H.size oH oP h1 h2 lH (g_lH)) kc_X4_length gX9_find_X4_length rfl rfl rfl ⟨Nat.le_of_ble_eq_true rfl, Nat.le_of_ble_eq_true rfl⟩ kX_t hK hP hD hS hA [9] [0, 1, 2, 3, 4, 5, 6, 7, 8, 10, 11, 12, 13, 14, 15, 16, 17, 18, 19, 20, 21, 22, 23, 24, 25, 26, 27, 28, 29] rfl (by decide +kernel) rfl rfl rfl hl rfl (Nat.le_of_ble_eq_true rfl) dX9_find_12 ⟨Nat.le_of_ble_eq_true rfl, Nat.le_of_ble_eq_true rfl⟩ (fun r_2 H locs hB hJ hSn => ?_)
  obtain ⟨⟨hP1, hD1⟩, hf2_0⟩ := hB
  obtain ⟨hPn, hDn⟩ := hJ _ hP1 hD1 [(oR, .inr (9, [.ref oH, .ref oK, .ref n1, .ref n2, .ref n3, .ref r1, .ref r2, .ref r3, .ref r4, .ref r5, .ref r6, .int lR])), (r2, .inl (cI, 258, .inl fR2)), (r3, .inl (cI, 774, .inl fR3)), (n1, .inr (5, [.ref a1, .int l1])), (a1, .inl (cI, 300, .inl f1)), (n2, .inr (5, [.ref a2, .int l2])), (a2, .inl (cI, 300, .inl f2)), (n3, .inr (5, [.ref a3, .int l3])), (a3, .inl (cI, 300, .inl f3)), (h1, .inl (cI, 6, .inl fH1)), (h2, .inl (cI, 6, .inl fH2)), (oP, .inr (7, [.ref oC, .ref nB, .int ft])), (nB, .inr (5, [.ref aB, .int lB])), (aB, .inl (cI, 2400, .inl fB)), (oC, .inr (2, [.ref o4, .ref o5])), (o4, .inr (10, [.ref a41, .ref a42, .ref a43, .int l4])), (a41, .inl (cI, 256, .inl f41)), (a42, .inl (cI, 512, .inl f42)), (a43, .inl (cI, 512, .inl f43)), (o5, .inr (10, [.ref a51, .ref a52, .ref a53, .int l5])), (a51, .inl (cI, 256, .inl f51)), (a52, .inl (cI, 512, .inl f52)), (a53, .inl (cI, 512, .inl f53)), (oK, .inr (3, [.ref k1, .ref k2, .int lK])), (k1, .inl (cI, 1024, .inl fK1)), (k2, .inl (cI, 1024, .inl fK2)), (nx, .inr (5, [.ref ax, .int lx])), (ax, .inl (cI, 300, .inl fx)), (r1, .inl (cI, 258, .inl f_1)), (oH, .inr (4, [.ref oP, .ref h1, .ref h2, .int lH]))] rfl
  clear hP hD hS hJ hP1 hD1
  have hP := hPn
  have hD := hDn
  have hS := hSn
  clear hPn hDn hSn
  rw [hf2_0]
  refine lv_istore_n (lv' := [(3, .int lH), (0, .ref oR), (1, .int n), (2, .ref nx)]) hx hb dX9_find_15 rfl hl (by decide) rfl (fun ls hl => ?_)
  refine lv_iconst (v := 0) hx hb dX9_find_16 (by decide) ?_
  refine lv_istore (lv' := [(4, .int 0), (3, .int lH), (0, .ref oR), (1, .int n), (2, .ref nx)]) hx hb dX9_find_17 hl (by decide) rfl (fun ls hl => ?_)
  have LOOP_19 : ∀ (k_19 : Nat) (la : Int32) (fta : Int32) (lBa : Int32) (loa : Int32) (lta : Int32) (lha : Int32) (fBa : Nat → Int32) (foa : Nat → Int32) (ft_a : Nat → Int32) (fha : Nat → Int32) (fxa : Nat → Int32) (fya : Nat → Int32) (fza : Nat → Int32) (H : Heap) (locs : List Loc) (ls : Array Slot), MSd (6 - la.toInt : Int) k_19 → (0 ≤ la.toInt ∧ la.toInt ≤ 6) → (0 ≤ lBa.toInt ∧ lBa.toInt ≤ 2400) → (0 ≤ loa.toInt ∧ loa.toInt ≤ 300) → (0 ≤ lta.toInt ∧ lta.toInt ≤ 300) → (0 ≤ lha.toInt ∧ lha.toInt ≤ 300) → va_P (dC, dI) vwCl [(oR, .inr (9, [.ref oH, .ref oK, .ref n1, .ref n2, .ref n3, .ref r1, .ref r2, .ref r3, .ref r4, .ref r5, .ref r6, .int lR])), (r2, .inl (cI, 258, .inl fya)), (r3, .inl (cI, 774, .inl fza)), (n1, .inr (5, [.ref a1, .int loa])), (a1, .inl (cI, 300, .inl foa)), (n2, .inr (5, [.ref a2, .int lta])), (a2, .inl (cI, 300, .inl ft_a)), (n3, .inr (5, [.ref a3, .int lha])), (a3, .inl (cI, 300, .inl fha)), (h1, .inl (cI, 6, .inl fH1)), (h2, .inl (cI, 6, .inl fH2)), (oP, .inr (7, [.ref oC, .ref nB, .int fta])), (nB, .inr (5, [.ref aB, .int lBa])), (aB, .inl (cI, 2400, .inl fBa)), (oC, .inr (2, [.ref o4, .ref o5])), (o4, .inr (10, [.ref a41, .ref a42, .ref a43, .int l4])), (a41, .inl (cI, 256, .inl f41)), (a42, .inl (cI, 512, .inl f42)), (a43, .inl (cI, 512, .inl f43)), (o5, .inr (10, [.ref a51, .ref a52, .ref a53, .int l5])), (a51, .inl (cI, 256, .inl f51)), (a52, .inl (cI, 512, .inl f52)), (a53, .inl (cI, 512, .inl f53)), (oK, .inr (3, [.ref k1, .ref k2, .int lK])), (k1, .inl (cI, 1024, .inl fK1)), (k2, .inl (cI, 1024, .inl fK2)), (nx, .inr (5, [.ref ax, .int lx])), (ax, .inl (cI, 300, .inl fx)), (r1, .inl (cI, 258, .inl fxa)), (oH, .inr (4, [.ref oP, .ref h1, .ref h2, .int lH]))] H → va_D A [(oR, .inr (9, [.ref oH, .ref oK, .ref n1, .ref n2, .ref n3, .ref r1, .ref r2, .ref r3, .ref r4, .ref r5, .ref r6, .int lR])), (r2, .inl (cI, 258, .inl fya)), (r3, .inl (cI, 774, .inl fza)), (n1, .inr (5, [.ref a1, .int loa])), (a1, .inl (cI, 300, .inl foa)), (n2, .inr (5, [.ref a2, .int lta])), (a2, .inl (cI, 300, .inl ft_a)), (n3, .inr (5, [.ref a3, .int lha])), (a3, .inl (cI, 300, .inl fha)), (h1, .inl (cI, 6, .inl fH1)), (h2, .inl (cI, 6, .inl fH2)), (oP, .inr (7, [.ref oC, .ref nB, .int fta])), (nB, .inr (5, [.ref aB, .int lBa])), (aB, .inl (cI, 2400, .inl fBa)), (oC, .inr (2, [.ref o4, .ref o5])), (o4, .inr (10, [.ref a41, .ref a42, .ref a43, .int l4])), (a41, .inl (cI, 256, .inl f41)), (a42, .inl (cI, 512, .inl f42)), (a43, .inl (cI, 512, .inl f43)), (o5, .inr (10, [.ref a51, .ref a52, .ref a53, .int l5])), (a51, .inl (cI, 256, .inl f51)), (a52, .inl (cI, 512, .inl f52)), (a53, .inl (cI, 512, .inl f53)), (oK, .inr (3, [.ref k1, .ref k2, .int lK])), (k1, .inl (cI, 1024, .inl fK1)), (k2, .inl (cI, 1024, .inl fK2)), (nx, .inr (5, [.ref ax, .int lx])), (ax, .inl (cI, 300, .inl fx)), (r1, .inl (cI, 258, .inl fxa)), (oH, .inr (4, [.ref oP, .ref h1, .ref h2, .int lH]))] → va_S A s.heap H locs → lv_has ls 9 [(4, .int la), (3, .int lH), (0, .ref oR), (1, .int n), (2, .ref nx)] → W p l e (headSpec wsX9_find ({ frames := 6, cells := 0, slots := 0, locals := 147 } : Room)).room s m ([.ref oR, .int n, .ref nx] : List Value).toArray below meth c H locs 0 0 (MQ below QQ ([.ref oR, .int n, .ref nx] : List Value).toArray s 0 0 A) (F0 m 19 ls []) := by
    clear hP hD hS hl
    try (clear hf1_0)
    intro k_19
    induction k_19 with
    | zero =>
      intro la fta lBa loa lta lha fBa foa ft_a fha fxa fya fza H locs ls hm_19 g_la g_lBa g_loa g_lta g_lha hP hD hS hl
      exact ms_0 hm_19
    | succ k_19 ih_19 =>
      intro la fta lBa loa lta lha fBa foa ft_a fha fxa fya fza H locs ls hm_19 g_la g_lBa g_loa g_lta g_lha hP hD hS hl
      refine lv_iload hx hb dX9_find_19 (lv_at hl 0 rfl) ?_
      refine lv_iload_n hx hb dX9_find_21 rfl (lv_at hl 1 rfl) ?_
      refine lv_icmp_ge (tgt := 228) hx hb dX9_find_22 (by decide) (fun c_3 => ?_) (fun c_3 => ?_)
      · have tc_3 : lH.toInt ≤ la.toInt := v_le c_3
        exact kl_v hQQ hx hb hr hlocks hS dX9_find_228 ⟨fta, lBa, fBa, loa, foa, lta, ft_a, lha, fha, fxa, fya, fza, kPD_sub hP hD [0, 28, 1, 2, 3, 4, 5, 6, 7, 8, 29, 9, 10, 11, 12, 13, 14, 15, 16, 17, 18, 19, 20, 21, 22, 23, 24, 25, 26, 27] (by decide +kernel) rfl, g_lBa, g_loa, g_lta, g_lha⟩
      · have tc_3 : la.toInt < lH.toInt := v_nle c_3
        refine lv_aload_n hx hb dX9_find_25 rfl (lv_at hl 2 rfl) ?_
        refine va_get (D := (dC, dI)) (ci := 9) (v := .ref oH) (C := RX9) (T := TX9) (N := 12) hx hb hts in_X9 hown hK hP 0 rfl rfl 0 (by decide) (hts (.fieldLink RX9 45 "TextMender$Rows" "harms" "LTextMender$Harms;") (List.mem_of_getElem? (i := 2) rfl)) (fun _ h9 => h9) rfl dX9_find_26 ?_
        refine lv_iload hx hb dX9_find_29 (lv_at hl 0 rfl) ?_
        refine lv_aload_n hx hb dX9_find_31 rfl (lv_at hl 4 rfl) ?_
        refine lv_aload_n hx hb dX9_find_32 rfl (lv_at hl 2 rfl) ?_
        refine va_get (D := (dC, dI)) (ci := 9) (v := .ref n1) (C := RX9) (T := TX9) (N := 12) hx hb hts in_X9 hown hK hP 0 rfl rfl 2 (by decide) (hts (.fieldLink RX9 14 "TextMender$Rows" "one" "LTextMender$Numbers;") (List.mem_of_getElem? (i := 3) rfl)) (fun _ h9 => h9) rfl dX9_find_33 ?_
        refine kV_i (rest := []) (q0 := 0) (ci := 4) hcf (m_X4_takeOff l dC dI cI cS H.size oH nx n1 oP h1 h2 oC nB aB ax a1 o4 o5 a41 a42 a43 a51 a52 a53 lH fH1 fH2 fta lBa fBa lx fx loa foa l4 f41 f42 f43 l5 f51 f52 f53 la (g_lH) (g_lBa) (g_lx) (g_loa)) kc_X4_takeOff gX9_find_X4_takeOff rfl rfl rfl ⟨Nat.le_of_ble_eq_true rfl, Nat.le_of_ble_eq_true rfl⟩ (kX_1 hN52) hK hP hD hS hA [29, 9, 10, 11, 12, 13, 26, 27, 3, 4, 14, 15, 16, 17, 18, 19, 20, 21, 22] [0, 1, 2, 5, 6, 7, 8, 23, 24, 25, 28] rfl (by decide +kernel) rfl rfl rfl hl rfl (Nat.le_of_ble_eq_true rfl) dX9_find_36 ⟨Nat.le_of_ble_eq_true rfl, Nat.le_of_ble_eq_true rfl⟩ (fun r_4 H locs hB hJ hSn => ?_)
        obtain ⟨ft_4, lB_4, fB_4, ld_4, fd_4, ⟨hP1, hD1⟩, hf4_0, hf4_1, hf4_2⟩ := hB
        obtain ⟨hPn, hDn⟩ := hJ _ hP1 hD1 [(oR, .inr (9, [.ref oH, .ref oK, .ref n1, .ref n2, .ref n3, .ref r1, .ref r2, .ref r3, .ref r4, .ref r5, .ref r6, .int lR])), (r2, .inl (cI, 258, .inl fya)), (r3, .inl (cI, 774, .inl fza)), (n2, .inr (5, [.ref a2, .int lta])), (a2, .inl (cI, 300, .inl ft_a)), (n3, .inr (5, [.ref a3, .int lha])), (a3, .inl (cI, 300, .inl fha)), (oK, .inr (3, [.ref k1, .ref k2, .int lK])), (k1, .inl (cI, 1024, .inl fK1)), (k2, .inl (cI, 1024, .inl fK2)), (r1, .inl (cI, 258, .inl fxa)), (oH, .inr (4, [.ref oP, .ref h1, .ref h2, .int lH])), (h1, .inl (cI, 6, .inl fH1)), (h2, .inl (cI, 6, .inl fH2)), (oP, .inr (7, [.ref oC, .ref nB, .int ft_4])), (nB, .inr (5, [.ref aB, .int lB_4])), (aB, .inl (cI, 2400, .inl fB_4)), (nx, .inr (5, [.ref ax, .int lx])), (ax, .inl (cI, 300, .inl fx)), (n1, .inr (5, [.ref a1, .int ld_4])), (a1, .inl (cI, 300, .inl fd_4)), (oC, .inr (2, [.ref o4, .ref o5])), (o4, .inr (10, [.ref a41, .ref a42, .ref a43, .int l4])), (a41, .inl (cI, 256, .inl f41)), (a42, .inl (cI, 512, .inl f42)), (a43, .inl (cI, 512, .inl f43)), (o5, .inr (10, [.ref a51, .ref a52, .ref a53, .int l5])), (a51, .inl (cI, 256, .inl f51)), (a52, .inl (cI, 512, .inl f52)), (a53, .inl (cI, 512, .inl f53))] rfl
        clear hP hD hS hJ hP1 hD1
        have hP := hPn
        have hD := hDn
        have hS := hSn
        clear hPn hDn hSn
        refine lv_if_ne (tgt := 45) hx hb dX9_find_39 (by decide) (fun c_5 => ?_) (fun c_5 => ?_)
        · have tc_5 : ¬ r_4.toInt = 0 := v_ne c_5
          refine lv_aload_n hx hb dX9_find_45 rfl (lv_at hl 2 rfl) ?_
          refine lv_iload hx hb dX9_find_46 (lv_at hl 0 rfl) ?_
          refine lv_aload_n hx hb dX9_find_48 rfl (lv_at hl 2 rfl) ?_
          refine va_get (D := (dC, dI)) (ci := 9) (v := .ref n1) (C := RX9) (T := TX9) (N := 12) hx hb hts in_X9 hown hK hP 0 rfl rfl 2 (by decide) (hts (.fieldLink RX9 14 "TextMender$Rows" "one" "LTextMender$Numbers;") (List.mem_of_getElem? (i := 3) rfl)) (fun _ h9 => h9) rfl dX9_find_49 ?_
          refine kV_v (rest := []) (q0 := 0) (ci := 9) hcf (m_X9_note l dC dI cI cS H.size oR n1 oH oK n1 n2 n3 r1 r2 r3 r4 r5 r6 k1 k2 a1 lR fxa fya lK fK1 fK2 ld_4 fd_4 la (g_lR) (g_lK) (hf4_1)) kc_X9_note gX9_find_X9_note rfl rfl rfl ⟨Nat.le_of_ble_eq_true rfl, Nat.le_of_ble_eq_true rfl⟩ kX_t hK hP hD hS hA [0, 10, 1, 7, 8, 9, 19, 20] [2, 3, 4, 5, 6, 11, 12, 13, 14, 15, 16, 17, 18, 21, 22, 23, 24, 25, 26, 27, 28, 29] rfl (by decide +kernel) rfl rfl rfl hl rfl (Nat.le_of_ble_eq_true rfl) dX9_find_52 ⟨Nat.le_of_ble_eq_true rfl, Nat.le_of_ble_eq_true rfl⟩ (fun H locs hB hJ hSn => ?_)
          obtain ⟨fR1_6, fR2_6, ⟨hP1, hD1⟩⟩ := hB
          obtain ⟨hPn, hDn⟩ := hJ _ hP1 hD1 [(r3, .inl (cI, 774, .inl fza)), (n2, .inr (5, [.ref a2, .int lta])), (a2, .inl (cI, 300, .inl ft_a)), (n3, .inr (5, [.ref a3, .int lha])), (a3, .inl (cI, 300, .inl fha)), (oH, .inr (4, [.ref oP, .ref h1, .ref h2, .int lH])), (h1, .inl (cI, 6, .inl fH1)), (h2, .inl (cI, 6, .inl fH2)), (oP, .inr (7, [.ref oC, .ref nB, .int ft_4])), (nB, .inr (5, [.ref aB, .int lB_4])), (aB, .inl (cI, 2400, .inl fB_4)), (nx, .inr (5, [.ref ax, .int lx])), (ax, .inl (cI, 300, .inl fx)), (oC, .inr (2, [.ref o4, .ref o5])), (o4, .inr (10, [.ref a41, .ref a42, .ref a43, .int l4])), (a41, .inl (cI, 256, .inl f41)), (a42, .inl (cI, 512, .inl f42)), (a43, .inl (cI, 512, .inl f43)), (o5, .inr (10, [.ref a51, .ref a52, .ref a53, .int l5])), (a51, .inl (cI, 256, .inl f51)), (a52, .inl (cI, 512, .inl f52)), (a53, .inl (cI, 512, .inl f53)), (oR, .inr (9, [.ref oH, .ref oK, .ref n1, .ref n2, .ref n3, .ref r1, .ref r2, .ref r3, .ref r4, .ref r5, .ref r6, .int lR])), (r1, .inl (cI, 258, .inl fR1_6)), (r2, .inl (cI, 258, .inl fR2_6)), (oK, .inr (3, [.ref k1, .ref k2, .int lK])), (k1, .inl (cI, 1024, .inl fK1)), (k2, .inl (cI, 1024, .inl fK2)), (n1, .inr (5, [.ref a1, .int ld_4])), (a1, .inl (cI, 300, .inl fd_4))] rfl
          clear hP hD hS hJ hP1 hD1
          have hP := hPn
          have hD := hDn
          have hS := hSn
          clear hPn hDn hSn
          refine lv_aload_n hx hb dX9_find_55 rfl (lv_at hl 2 rfl) ?_
          refine lv_iload hx hb dX9_find_56 (lv_at hl 0 rfl) ?_
          refine lv_iload hx hb dX9_find_58 (lv_at hl 0 rfl) ?_
          refine lv_iconst (v := (-1)) hx hb dX9_find_60 (by decide) ?_
          refine lv_iconst (v := (-1)) hx hb dX9_find_61 (by decide) ?_
          refine kV_v (rest := []) (q0 := 0) (ci := 9) hcf (m_X9_nameHarms l dC dI cI cS H.size oR oH oK n1 n2 n3 r1 r2 r3 r4 r5 r6 lR fza la la (-1) (-1) (g_lR)) kc_X9_nameHarms gX9_find_X9_nameHarms rfl rfl rfl ⟨Nat.le_of_ble_eq_true rfl, Nat.le_of_ble_eq_true rfl⟩ kX_t hK hP hD hS hA [22, 0] [1, 2, 3, 4, 5, 6, 7, 8, 9, 10, 11, 12, 13, 14, 15, 16, 17, 18, 19, 20, 21, 23, 24, 25, 26, 27, 28, 29] rfl (by decide +kernel) rfl rfl rfl hl rfl (Nat.le_of_ble_eq_true rfl) dX9_find_62 ⟨Nat.le_of_ble_eq_true rfl, Nat.le_of_ble_eq_true rfl⟩ (fun H locs hB hJ hSn => ?_)
          obtain ⟨fR3_7, ⟨hP1, hD1⟩⟩ := hB
          obtain ⟨hPn, hDn⟩ := hJ _ hP1 hD1 [(n2, .inr (5, [.ref a2, .int lta])), (a2, .inl (cI, 300, .inl ft_a)), (n3, .inr (5, [.ref a3, .int lha])), (a3, .inl (cI, 300, .inl fha)), (oH, .inr (4, [.ref oP, .ref h1, .ref h2, .int lH])), (h1, .inl (cI, 6, .inl fH1)), (h2, .inl (cI, 6, .inl fH2)), (oP, .inr (7, [.ref oC, .ref nB, .int ft_4])), (nB, .inr (5, [.ref aB, .int lB_4])), (aB, .inl (cI, 2400, .inl fB_4)), (nx, .inr (5, [.ref ax, .int lx])), (ax, .inl (cI, 300, .inl fx)), (oC, .inr (2, [.ref o4, .ref o5])), (o4, .inr (10, [.ref a41, .ref a42, .ref a43, .int l4])), (a41, .inl (cI, 256, .inl f41)), (a42, .inl (cI, 512, .inl f42)), (a43, .inl (cI, 512, .inl f43)), (o5, .inr (10, [.ref a51, .ref a52, .ref a53, .int l5])), (a51, .inl (cI, 256, .inl f51)), (a52, .inl (cI, 512, .inl f52)), (a53, .inl (cI, 512, .inl f53)), (r1, .inl (cI, 258, .inl fR1_6)), (r2, .inl (cI, 258, .inl fR2_6)), (oK, .inr (3, [.ref k1, .ref k2, .int lK])), (k1, .inl (cI, 1024, .inl fK1)), (k2, .inl (cI, 1024, .inl fK2)), (n1, .inr (5, [.ref a1, .int ld_4])), (a1, .inl (cI, 300, .inl fd_4)), (oR, .inr (9, [.ref oH, .ref oK, .ref n1, .ref n2, .ref n3, .ref r1, .ref r2, .ref r3, .ref r4, .ref r5, .ref r6, .int lR])), (r3, .inl (cI, 774, .inl fR3_7))] rfl
          clear hP hD hS hJ hP1 hD1
          have hP := hPn
          have hD := hDn
          have hS := hSn
          clear hPn hDn hSn
          refine lv_iconst (v := 0) hx hb dX9_find_65 (by decide) ?_
          refine lv_istore (lv' := [(5, .int 0), (4, .int la), (3, .int lH), (0, .ref oR), (1, .int n), (2, .ref nx)]) hx hb dX9_find_66 hl (by decide) rfl (fun ls hl => ?_)
          have LOOP_68 : ∀ (k_68 : Nat) (mi : Int32) (ftb : Int32) (lBb : Int32) (lob : Int32) (ltb : Int32) (lhb : Int32) (fBb : Nat → Int32) (fob : Nat → Int32) (ft_b : Nat → Int32) (fhb : Nat → Int32) (fxb : Nat → Int32) (fyb : Nat → Int32) (fzb : Nat → Int32) (H : Heap) (locs : List Loc) (ls : Array Slot), MSd (6 - mi.toInt : Int) k_68 → (0 ≤ mi.toInt ∧ mi.toInt ≤ 6) → (0 ≤ lBb.toInt ∧ lBb.toInt ≤ 2400) → (0 ≤ lob.toInt ∧ lob.toInt ≤ 300) → (0 ≤ ltb.toInt ∧ ltb.toInt ≤ 300) → (0 ≤ lhb.toInt ∧ lhb.toInt ≤ 300) → va_P (dC, dI) vwCl [(n2, .inr (5, [.ref a2, .int ltb])), (a2, .inl (cI, 300, .inl ft_b)), (n3, .inr (5, [.ref a3, .int lhb])), (a3, .inl (cI, 300, .inl fhb)), (oH, .inr (4, [.ref oP, .ref h1, .ref h2, .int lH])), (h1, .inl (cI, 6, .inl fH1)), (h2, .inl (cI, 6, .inl fH2)), (oP, .inr (7, [.ref oC, .ref nB, .int ftb])), (nB, .inr (5, [.ref aB, .int lBb])), (aB, .inl (cI, 2400, .inl fBb)), (nx, .inr (5, [.ref ax, .int lx])), (ax, .inl (cI, 300, .inl fx)), (oC, .inr (2, [.ref o4, .ref o5])), (o4, .inr (10, [.ref a41, .ref a42, .ref a43, .int l4])), (a41, .inl (cI, 256, .inl f41)), (a42, .inl (cI, 512, .inl f42)), (a43, .inl (cI, 512, .inl f43)), (o5, .inr (10, [.ref a51, .ref a52, .ref a53, .int l5])), (a51, .inl (cI, 256, .inl f51)), (a52, .inl (cI, 512, .inl f52)), (a53, .inl (cI, 512, .inl f53)), (r1, .inl (cI, 258, .inl fxb)), (r2, .inl (cI, 258, .inl fyb)), (oK, .inr (3, [.ref k1, .ref k2, .int lK])), (k1, .inl (cI, 1024, .inl fK1)), (k2, .inl (cI, 1024, .inl fK2)), (n1, .inr (5, [.ref a1, .int lob])), (a1, .inl (cI, 300, .inl fob)), (oR, .inr (9, [.ref oH, .ref oK, .ref n1, .ref n2, .ref n3, .ref r1, .ref r2, .ref r3, .ref r4, .ref r5, .ref r6, .int lR])), (r3, .inl (cI, 774, .inl fzb))] H → va_D A [(n2, .inr (5, [.ref a2, .int ltb])), (a2, .inl (cI, 300, .inl ft_b)), (n3, .inr (5, [.ref a3, .int lhb])), (a3, .inl (cI, 300, .inl fhb)), (oH, .inr (4, [.ref oP, .ref h1, .ref h2, .int lH])), (h1, .inl (cI, 6, .inl fH1)), (h2, .inl (cI, 6, .inl fH2)), (oP, .inr (7, [.ref oC, .ref nB, .int ftb])), (nB, .inr (5, [.ref aB, .int lBb])), (aB, .inl (cI, 2400, .inl fBb)), (nx, .inr (5, [.ref ax, .int lx])), (ax, .inl (cI, 300, .inl fx)), (oC, .inr (2, [.ref o4, .ref o5])), (o4, .inr (10, [.ref a41, .ref a42, .ref a43, .int l4])), (a41, .inl (cI, 256, .inl f41)), (a42, .inl (cI, 512, .inl f42)), (a43, .inl (cI, 512, .inl f43)), (o5, .inr (10, [.ref a51, .ref a52, .ref a53, .int l5])), (a51, .inl (cI, 256, .inl f51)), (a52, .inl (cI, 512, .inl f52)), (a53, .inl (cI, 512, .inl f53)), (r1, .inl (cI, 258, .inl fxb)), (r2, .inl (cI, 258, .inl fyb)), (oK, .inr (3, [.ref k1, .ref k2, .int lK])), (k1, .inl (cI, 1024, .inl fK1)), (k2, .inl (cI, 1024, .inl fK2)), (n1, .inr (5, [.ref a1, .int lob])), (a1, .inl (cI, 300, .inl fob)), (oR, .inr (9, [.ref oH, .ref oK, .ref n1, .ref n2, .ref n3, .ref r1, .ref r2, .ref r3, .ref r4, .ref r5, .ref r6, .int lR])), (r3, .inl (cI, 774, .inl fzb))] → va_S A s.heap H locs → lv_has ls 9 [(5, .int mi), (4, .int la), (3, .int lH), (0, .ref oR), (1, .int n), (2, .ref nx)] → W p l e (headSpec wsX9_find ({ frames := 6, cells := 0, slots := 0, locals := 147 } : Room)).room s m ([.ref oR, .int n, .ref nx] : List Value).toArray below meth c H locs 0 0 (MQ below QQ ([.ref oR, .int n, .ref nx] : List Value).toArray s 0 0 A) (F0 m 68 ls []) := by
            clear hP hD hS hl
            try (clear tc_5 hf4_0 hf4_1 hf4_2 g_lBa g_loa g_lta g_lha hf1_0)
            intro k_68
            induction k_68 with
            | zero =>
              intro mi ftb lBb lob ltb lhb fBb fob ft_b fhb fxb fyb fzb H locs ls hm_68 g_mi g_lBb g_lob g_ltb g_lhb hP hD hS hl
              exact ms_0 hm_68
            | succ k_68 ih_68 =>
              intro mi ftb lBb lob ltb lhb fBb fob ft_b fhb fxb fyb fzb H locs ls hm_68 g_mi g_lBb g_lob g_ltb g_lhb hP hD hS hl
              refine lv_iload_n hx hb dX9_find_68 rfl (lv_at hl 4 rfl) ?_
              refine lv_iconst (v := 1) hx hb dX9_find_69 (by decide) ?_
              refine lv_icmp_le (tgt := 222) hx hb dX9_find_70 (by decide) (fun c_8 => ?_) (fun c_8 => ?_)
              · have tc_8 : n.toInt ≤ 1 := v_le c_8
                obtain ⟨x_9, ex_9⟩ : ∃ y : Int32, y = la + 1 := ⟨_, rfl⟩
                have tx_9 : x_9.toInt = la.toInt + 1 := v_addR (l2 := 1) (h2 := 1) ex_9 g_la (by decide) (by decide) (by decide)
                refine lv_iinc (v := x_9) (lv' := [(4, .int x_9), (5, .int mi), (3, .int lH), (0, .ref oR), (1, .int n), (2, .ref nx)]) hx hb dX9_find_222 hl (k := 1) rfl (by rw [ex_9]; rfl) (by decide) rfl (fun ls hl => ?_)
                refine lv_goto (tgt := 19) hx hb dX9_find_225 (by decide) ?_
                exact ih_19 x_9 ftb lBb lob ltb lhb fBb fob ft_b fhb fxb fyb fzb _ _ _ (ms_lt hm_19 (by show ((6 - x_9.toInt : Int)) < 6 - la.toInt; omega) (by show (0 : Int) < 6 - la.toInt; omega)) (by show 0 ≤ x_9.toInt ∧ x_9.toInt ≤ 6; omega) (g_lBb) (g_lob) (g_ltb) (g_lhb) (hP.sub [28, 22, 29, 26, 27, 0, 1, 2, 3, 5, 6, 7, 8, 9, 12, 13, 14, 15, 16, 17, 18, 19, 20, 23, 24, 25, 10, 11, 21, 4] rfl) (hD.sub [28, 22, 29, 26, 27, 0, 1, 2, 3, 5, 6, 7, 8, 9, 12, 13, 14, 15, 16, 17, 18, 19, 20, 23, 24, 25, 10, 11, 21, 4] (by decide +kernel) rfl) hS (lv_sub hl [0, 2, 3, 4, 5] rfl)
              · have tc_8 : 1 < n.toInt := v_nle c_8
                refine lv_iload hx hb dX9_find_73 (lv_at hl 0 rfl) ?_
                refine lv_iload_n hx hb dX9_find_75 rfl (lv_at hl 2 rfl) ?_
                refine lv_icmp_ge (tgt := 222) hx hb dX9_find_76 (by decide) (fun c_10 => ?_) (fun c_10 => ?_)
                · have tc_10 : lH.toInt ≤ mi.toInt := v_le c_10
                  obtain ⟨x_11, ex_11⟩ : ∃ y : Int32, y = la + 1 := ⟨_, rfl⟩
                  have tx_11 : x_11.toInt = la.toInt + 1 := v_addR (l2 := 1) (h2 := 1) ex_11 g_la (by decide) (by decide) (by decide)
                  refine lv_iinc (v := x_11) (lv' := [(4, .int x_11), (5, .int mi), (3, .int lH), (0, .ref oR), (1, .int n), (2, .ref nx)]) hx hb dX9_find_222 hl (k := 1) rfl (by rw [ex_11]; rfl) (by decide) rfl (fun ls hl => ?_)
                  refine lv_goto (tgt := 19) hx hb dX9_find_225 (by decide) ?_
                  exact ih_19 x_11 ftb lBb lob ltb lhb fBb fob ft_b fhb fxb fyb fzb _ _ _ (ms_lt hm_19 (by show ((6 - x_11.toInt : Int)) < 6 - la.toInt; omega) (by show (0 : Int) < 6 - la.toInt; omega)) (by show 0 ≤ x_11.toInt ∧ x_11.toInt ≤ 6; omega) (g_lBb) (g_lob) (g_ltb) (g_lhb) (hP.sub [28, 22, 29, 26, 27, 0, 1, 2, 3, 5, 6, 7, 8, 9, 12, 13, 14, 15, 16, 17, 18, 19, 20, 23, 24, 25, 10, 11, 21, 4] rfl) (hD.sub [28, 22, 29, 26, 27, 0, 1, 2, 3, 5, 6, 7, 8, 9, 12, 13, 14, 15, 16, 17, 18, 19, 20, 23, 24, 25, 10, 11, 21, 4] (by decide +kernel) rfl) hS (lv_sub hl [0, 2, 3, 4, 5] rfl)
                · have tc_10 : mi.toInt < lH.toInt := v_nle c_10
                  refine lv_aload_n hx hb dX9_find_79 rfl (lv_at hl 3 rfl) ?_
                  refine va_get (D := (dC, dI)) (ci := 9) (v := .ref oH) (C := RX9) (T := TX9) (N := 12) hx hb hts in_X9 hown hK hP 28 rfl rfl 0 (by decide) (hts (.fieldLink RX9 45 "TextMender$Rows" "harms" "LTextMender$Harms;") (List.mem_of_getElem? (i := 2) rfl)) (fun _ h9 => h9) rfl dX9_find_80 ?_
                  refine lv_iload hx hb dX9_find_83 (lv_at hl 0 rfl) ?_
                  refine lv_aload_n hx hb dX9_find_85 rfl (lv_at hl 3 rfl) ?_
                  refine va_get (D := (dC, dI)) (ci := 9) (v := .ref n1) (C := RX9) (T := TX9) (N := 12) hx hb hts in_X9 hown hK hP 28 rfl rfl 2 (by decide) (hts (.fieldLink RX9 14 "TextMender$Rows" "one" "LTextMender$Numbers;") (List.mem_of_getElem? (i := 3) rfl)) (fun _ h9 => h9) rfl dX9_find_86 ?_
                  refine lv_aload_n hx hb dX9_find_89 rfl (lv_at hl 3 rfl) ?_
                  refine va_get (D := (dC, dI)) (ci := 9) (v := .ref n2) (C := RX9) (T := TX9) (N := 12) hx hb hts in_X9 hown hK hP 28 rfl rfl 3 (by decide) (hts (.fieldLink RX9 20 "TextMender$Rows" "two" "LTextMender$Numbers;") (List.mem_of_getElem? (i := 4) rfl)) (fun _ h9 => h9) rfl dX9_find_90 ?_
                  refine kV_i (rest := []) (q0 := 0) (ci := 4) hcf (m_X4_takeOff l dC dI cI cS H.size oH n1 n2 oP h1 h2 oC nB aB a1 a2 o4 o5 a41 a42 a43 a51 a52 a53 lH fH1 fH2 ftb lBb fBb lob fob ltb ft_b l4 f41 f42 f43 l5 f51 f52 f53 mi (g_lH) (g_lBb) (g_lob) (g_ltb)) kc_X4_takeOff gX9_find_X4_takeOff rfl rfl rfl ⟨Nat.le_of_ble_eq_true rfl, Nat.le_of_ble_eq_true rfl⟩ (kX_1 hN52) hK hP hD hS hA [4, 5, 6, 7, 8, 9, 26, 27, 0, 1, 12, 13, 14, 15, 16, 17, 18, 19, 20] [2, 3, 10, 11, 21, 22, 23, 24, 25, 28, 29] rfl (by decide +kernel) rfl rfl rfl hl rfl (Nat.le_of_ble_eq_true rfl) dX9_find_93 ⟨Nat.le_of_ble_eq_true rfl, Nat.le_of_ble_eq_true rfl⟩ (fun r_12 H locs hB hJ hSn => ?_)
                  obtain ⟨ft_12, lB_12, fB_12, ld_12, fd_12, ⟨hP1, hD1⟩, hf12_0, hf12_1, hf12_2⟩ := hB
                  obtain ⟨hPn, hDn⟩ := hJ _ hP1 hD1 [(n3, .inr (5, [.ref a3, .int lhb])), (a3, .inl (cI, 300, .inl fhb)), (nx, .inr (5, [.ref ax, .int lx])), (ax, .inl (cI, 300, .inl fx)), (r1, .inl (cI, 258, .inl fxb)), (r2, .inl (cI, 258, .inl fyb)), (oK, .inr (3, [.ref k1, .ref k2, .int lK])), (k1, .inl (cI, 1024, .inl fK1)), (k2, .inl (cI, 1024, .inl fK2)), (oR, .inr (9, [.ref oH, .ref oK, .ref n1, .ref n2, .ref n3, .ref r1, .ref r2, .ref r3, .ref r4, .ref r5, .ref r6, .int lR])), (r3, .inl (cI, 774, .inl fzb)), (oH, .inr (4, [.ref oP, .ref h1, .ref h2, .int lH])), (h1, .inl (cI, 6, .inl fH1)), (h2, .inl (cI, 6, .inl fH2)), (oP, .inr (7, [.ref oC, .ref nB, .int ft_12])), (nB, .inr (5, [.ref aB, .int lB_12])), (aB, .inl (cI, 2400, .inl fB_12)), (n1, .inr (5, [.ref a1, .int lob])), (a1, .inl (cI, 300, .inl fob)), (n2, .inr (5, [.ref a2, .int ld_12])), (a2, .inl (cI, 300, .inl fd_12)), (oC, .inr (2, [.ref o4, .ref o5])), (o4, .inr (10, [.ref a41, .ref a42, .ref a43, .int l4])), (a41, .inl (cI, 256, .inl f41)), (a42, .inl (cI, 512, .inl f42)), (a43, .inl (cI, 512, .inl f43)), (o5, .inr (10, [.ref a51, .ref a52, .ref a53, .int l5])), (a51, .inl (cI, 256, .inl f51)), (a52, .inl (cI, 512, .inl f52)), (a53, .inl (cI, 512, .inl f53))] rfl
                  clear hP hD hS hJ hP1 hD1
                  have hP := hPn
                  have hD := hDn
                  have hS := hSn
                  clear hPn hDn hSn
                  refine lv_if_ne (tgt := 102) hx hb dX9_find_96 (by decide) (fun c_13 => ?_) (fun c_13 => ?_)
                  · have tc_13 : ¬ r_12.toInt = 0 := v_ne c_13
                    refine lv_iload_n hx hb dX9_find_102 rfl (lv_at hl 2 rfl) ?_
                    refine lv_iload hx hb dX9_find_103 (lv_at hl 0 rfl) ?_
                    refine lv_iload_n hx hb dX9_find_105 rfl (lv_at hl 2 rfl) ?_
                    refine lv_imul hx hb dX9_find_106 ?_
                    refine lv_topi (fun x_14 ex_14 => ?_)
                    refine lv_iadd hx hb dX9_find_107 ?_
                    refine lv_topi (fun x_15 ex_15 => ?_)
                    have rv15_1 := v_rng x_14
                    refine lv_iload hx hb dX9_find_108 (lv_at hl 1 rfl) ?_
                    refine lv_iadd hx hb dX9_find_110 ?_
                    refine lv_topi (fun x_16 ex_16 => ?_)
                    have rv16_0 := v_rng x_15
                    refine lv_istore (lv' := [(6, .int x_16), (5, .int mi), (4, .int la), (3, .int lH), (0, .ref oR), (1, .int n), (2, .ref nx)]) hx hb dX9_find_111 hl (by decide) rfl (fun ls hl => ?_)
                    refine lv_aload_n hx hb dX9_find_113 rfl (lv_at hl 4 rfl) ?_
                    refine lv_iload hx hb dX9_find_114 (lv_at hl 0 rfl) ?_
                    refine lv_aload_n hx hb dX9_find_116 rfl (lv_at hl 4 rfl) ?_
                    refine va_get (D := (dC, dI)) (ci := 9) (v := .ref n2) (C := RX9) (T := TX9) (N := 12) hx hb hts in_X9 hown hK hP 9 rfl rfl 3 (by decide) (hts (.fieldLink RX9 20 "TextMender$Rows" "two" "LTextMender$Numbers;") (List.mem_of_getElem? (i := 4) rfl)) (fun _ h9 => h9) rfl dX9_find_117 ?_
                    refine kV_v (rest := []) (q0 := 0) (ci := 9) hcf (m_X9_note l dC dI cI cS H.size oR n2 oH oK n1 n2 n3 r1 r2 r3 r4 r5 r6 k1 k2 a2 lR fxb fyb lK fK1 fK2 ld_12 fd_12 x_16 (g_lR) (g_lK) (hf12_1)) kc_X9_note gX9_find_X9_note rfl rfl rfl ⟨Nat.le_of_ble_eq_true rfl, Nat.le_of_ble_eq_true rfl⟩ kX_t hK hP hD hS hA [9, 4, 5, 6, 7, 8, 19, 20] [0, 1, 2, 3, 10, 11, 12, 13, 14, 15, 16, 17, 18, 21, 22, 23, 24, 25, 26, 27, 28, 29] rfl (by decide +kernel) rfl rfl rfl hl rfl (Nat.le_of_ble_eq_true rfl) dX9_find_120 ⟨Nat.le_of_ble_eq_true rfl, Nat.le_of_ble_eq_true rfl⟩ (fun H locs hB hJ hSn => ?_)
                    obtain ⟨fR1_17, fR2_17, ⟨hP1, hD1⟩⟩ := hB
                    obtain ⟨hPn, hDn⟩ := hJ _ hP1 hD1 [(n3, .inr (5, [.ref a3, .int lhb])), (a3, .inl (cI, 300, .inl fhb)), (nx, .inr (5, [.ref ax, .int lx])), (ax, .inl (cI, 300, .inl fx)), (r3, .inl (cI, 774, .inl fzb)), (oH, .inr (4, [.ref oP, .ref h1, .ref h2, .int lH])), (h1, .inl (cI, 6, .inl fH1)), (h2, .inl (cI, 6, .inl fH2)), (oP, .inr (7, [.ref oC, .ref nB, .int ft_12])), (nB, .inr (5, [.ref aB, .int lB_12])), (aB, .inl (cI, 2400, .inl fB_12)), (n1, .inr (5, [.ref a1, .int lob])), (a1, .inl (cI, 300, .inl fob)), (oC, .inr (2, [.ref o4, .ref o5])), (o4, .inr (10, [.ref a41, .ref a42, .ref a43, .int l4])), (a41, .inl (cI, 256, .inl f41)), (a42, .inl (cI, 512, .inl f42)), (a43, .inl (cI, 512, .inl f43)), (o5, .inr (10, [.ref a51, .ref a52, .ref a53, .int l5])), (a51, .inl (cI, 256, .inl f51)), (a52, .inl (cI, 512, .inl f52)), (a53, .inl (cI, 512, .inl f53)), (oR, .inr (9, [.ref oH, .ref oK, .ref n1, .ref n2, .ref n3, .ref r1, .ref r2, .ref r3, .ref r4, .ref r5, .ref r6, .int lR])), (r1, .inl (cI, 258, .inl fR1_17)), (r2, .inl (cI, 258, .inl fR2_17)), (oK, .inr (3, [.ref k1, .ref k2, .int lK])), (k1, .inl (cI, 1024, .inl fK1)), (k2, .inl (cI, 1024, .inl fK2)), (n2, .inr (5, [.ref a2, .int ld_12])), (a2, .inl (cI, 300, .inl fd_12))] rfl
                    clear hP hD hS hJ hP1 hD1
                    have hP := hPn
                    have hD := hDn
                    have hS := hSn
                    clear hPn hDn hSn
                    refine lv_aload_n hx hb dX9_find_123 rfl (lv_at hl 4 rfl) ?_
                    refine lv_iload hx hb dX9_find_124 (lv_at hl 0 rfl) ?_
                    refine lv_iload hx hb dX9_find_126 (lv_at hl 1 rfl) ?_
                    refine lv_iload hx hb dX9_find_128 (lv_at hl 2 rfl) ?_
                    refine lv_iconst (v := (-1)) hx hb dX9_find_130 (by decide) ?_
                    refine kV_v (rest := []) (q0 := 0) (ci := 9) hcf (m_X9_nameHarms l dC dI cI cS H.size oR oH oK n1 n2 n3 r1 r2 r3 r4 r5 r6 lR fzb x_16 mi la (-1) (g_lR)) kc_X9_nameHarms gX9_find_X9_nameHarms rfl rfl rfl ⟨Nat.le_of_ble_eq_true rfl, Nat.le_of_ble_eq_true rfl⟩ kX_t hK hP hD hS hA [22, 4] [0, 1, 2, 3, 5, 6, 7, 8, 9, 10, 11, 12, 13, 14, 15, 16, 17, 18, 19, 20, 21, 23, 24, 25, 26, 27, 28, 29] rfl (by decide +kernel) rfl rfl rfl hl rfl (Nat.le_of_ble_eq_true rfl) dX9_find_131 ⟨Nat.le_of_ble_eq_true rfl, Nat.le_of_ble_eq_true rfl⟩ (fun H locs hB hJ hSn => ?_)
                    obtain ⟨fR3_18, ⟨hP1, hD1⟩⟩ := hB
                    obtain ⟨hPn, hDn⟩ := hJ _ hP1 hD1 [(n3, .inr (5, [.ref a3, .int lhb])), (a3, .inl (cI, 300, .inl fhb)), (nx, .inr (5, [.ref ax, .int lx])), (ax, .inl (cI, 300, .inl fx)), (oH, .inr (4, [.ref oP, .ref h1, .ref h2, .int lH])), (h1, .inl (cI, 6, .inl fH1)), (h2, .inl (cI, 6, .inl fH2)), (oP, .inr (7, [.ref oC, .ref nB, .int ft_12])), (nB, .inr (5, [.ref aB, .int lB_12])), (aB, .inl (cI, 2400, .inl fB_12)), (n1, .inr (5, [.ref a1, .int lob])), (a1, .inl (cI, 300, .inl fob)), (oC, .inr (2, [.ref o4, .ref o5])), (o4, .inr (10, [.ref a41, .ref a42, .ref a43, .int l4])), (a41, .inl (cI, 256, .inl f41)), (a42, .inl (cI, 512, .inl f42)), (a43, .inl (cI, 512, .inl f43)), (o5, .inr (10, [.ref a51, .ref a52, .ref a53, .int l5])), (a51, .inl (cI, 256, .inl f51)), (a52, .inl (cI, 512, .inl f52)), (a53, .inl (cI, 512, .inl f53)), (r1, .inl (cI, 258, .inl fR1_17)), (r2, .inl (cI, 258, .inl fR2_17)), (oK, .inr (3, [.ref k1, .ref k2, .int lK])), (k1, .inl (cI, 1024, .inl fK1)), (k2, .inl (cI, 1024, .inl fK2)), (n2, .inr (5, [.ref a2, .int ld_12])), (a2, .inl (cI, 300, .inl fd_12)), (oR, .inr (9, [.ref oH, .ref oK, .ref n1, .ref n2, .ref n3, .ref r1, .ref r2, .ref r3, .ref r4, .ref r5, .ref r6, .int lR])), (r3, .inl (cI, 774, .inl fR3_18))] rfl
                    clear hP hD hS hJ hP1 hD1
                    have hP := hPn
                    have hD := hDn
                    have hS := hSn
                    clear hPn hDn hSn
                    refine lv_iconst (v := 0) hx hb dX9_find_134 (by decide) ?_
                    refine lv_istore (lv' := [(7, .int 0), (6, .int x_16), (5, .int mi), (4, .int la), (3, .int lH), (0, .ref oR), (1, .int n), (2, .ref nx)]) hx hb dX9_find_135 hl (by decide) rfl (fun ls hl => ?_)
                    have LOOP_137 : ∀ (k_137 : Nat) (fi : Int32) (ftc : Int32) (lBc : Int32) (loc : Int32) (ltc : Int32) (lhc : Int32) (fBc : Nat → Int32) (foc : Nat → Int32) (ft_c : Nat → Int32) (fhc : Nat → Int32) (fxc : Nat → Int32) (fyc : Nat → Int32) (fzc : Nat → Int32) (H : Heap) (locs : List Loc) (ls : Array Slot), MSd (6 - fi.toInt : Int) k_137 → (0 ≤ fi.toInt ∧ fi.toInt ≤ 6) → (0 ≤ lBc.toInt ∧ lBc.toInt ≤ 2400) → (0 ≤ loc.toInt ∧ loc.toInt ≤ 300) → (0 ≤ ltc.toInt ∧ ltc.toInt ≤ 300) → (0 ≤ lhc.toInt ∧ lhc.toInt ≤ 300) → va_P (dC, dI) vwCl [(n3, .inr (5, [.ref a3, .int lhc])), (a3, .inl (cI, 300, .inl fhc)), (nx, .inr (5, [.ref ax, .int lx])), (ax, .inl (cI, 300, .inl fx)), (oH, .inr (4, [.ref oP, .ref h1, .ref h2, .int lH])), (h1, .inl (cI, 6, .inl fH1)), (h2, .inl (cI, 6, .inl fH2)), (oP, .inr (7, [.ref oC, .ref nB, .int ftc])), (nB, .inr (5, [.ref aB, .int lBc])), (aB, .inl (cI, 2400, .inl fBc)), (n1, .inr (5, [.ref a1, .int loc])), (a1, .inl (cI, 300, .inl foc)), (oC, .inr (2, [.ref o4, .ref o5])), (o4, .inr (10, [.ref a41, .ref a42, .ref a43, .int l4])), (a41, .inl (cI, 256, .inl f41)), (a42, .inl (cI, 512, .inl f42)), (a43, .inl (cI, 512, .inl f43)), (o5, .inr (10, [.ref a51, .ref a52, .ref a53, .int l5])), (a51, .inl (cI, 256, .inl f51)), (a52, .inl (cI, 512, .inl f52)), (a53, .inl (cI, 512, .inl f53)), (r1, .inl (cI, 258, .inl fxc)), (r2, .inl (cI, 258, .inl fyc)), (oK, .inr (3, [.ref k1, .ref k2, .int lK])), (k1, .inl (cI, 1024, .inl fK1)), (k2, .inl (cI, 1024, .inl fK2)), (n2, .inr (5, [.ref a2, .int ltc])), (a2, .inl (cI, 300, .inl ft_c)), (oR, .inr (9, [.ref oH, .ref oK, .ref n1, .ref n2, .ref n3, .ref r1, .ref r2, .ref r3, .ref r4, .ref r5, .ref r6, .int lR])), (r3, .inl (cI, 774, .inl fzc))] H → va_D A [(n3, .inr (5, [.ref a3, .int lhc])), (a3, .inl (cI, 300, .inl fhc)), (nx, .inr (5, [.ref ax, .int lx])), (ax, .inl (cI, 300, .inl fx)), (oH, .inr (4, [.ref oP, .ref h1, .ref h2, .int lH])), (h1, .inl (cI, 6, .inl fH1)), (h2, .inl (cI, 6, .inl fH2)), (oP, .inr (7, [.ref oC, .ref nB, .int ftc])), (nB, .inr (5, [.ref aB, .int lBc])), (aB, .inl (cI, 2400, .inl fBc)), (n1, .inr (5, [.ref a1, .int loc])), (a1, .inl (cI, 300, .inl foc)), (oC, .inr (2, [.ref o4, .ref o5])), (o4, .inr (10, [.ref a41, .ref a42, .ref a43, .int l4])), (a41, .inl (cI, 256, .inl f41)), (a42, .inl (cI, 512, .inl f42)), (a43, .inl (cI, 512, .inl f43)), (o5, .inr (10, [.ref a51, .ref a52, .ref a53, .int l5])), (a51, .inl (cI, 256, .inl f51)), (a52, .inl (cI, 512, .inl f52)), (a53, .inl (cI, 512, .inl f53)), (r1, .inl (cI, 258, .inl fxc)), (r2, .inl (cI, 258, .inl fyc)), (oK, .inr (3, [.ref k1, .ref k2, .int lK])), (k1, .inl (cI, 1024, .inl fK1)), (k2, .inl (cI, 1024, .inl fK2)), (n2, .inr (5, [.ref a2, .int ltc])), (a2, .inl (cI, 300, .inl ft_c)), (oR, .inr (9, [.ref oH, .ref oK, .ref n1, .ref n2, .ref n3, .ref r1, .ref r2, .ref r3, .ref r4, .ref r5, .ref r6, .int lR])), (r3, .inl (cI, 774, .inl fzc))] → va_S A s.heap H locs → lv_has ls 9 [(7, .int fi), (5, .int mi), (4, .int la), (3, .int lH), (0, .ref oR), (1, .int n), (2, .ref nx)] → W p l e (headSpec wsX9_find ({ frames := 6, cells := 0, slots := 0, locals := 147 } : Room)).room s m ([.ref oR, .int n, .ref nx] : List Value).toArray below meth c H locs 0 0 (MQ below QQ ([.ref oR, .int n, .ref nx] : List Value).toArray s 0 0 A) (F0 m 137 ls []) := by
                      clear hP hD hS hl
                      try (clear rv16_0 rv15_1 tc_13 hf12_0 hf12_1 hf12_2 tc_8 g_lBb g_lob g_ltb g_lhb tc_5 hf4_0 hf4_1 hf4_2 g_lBa g_loa g_lta g_lha hf1_0)
                      intro k_137
                      induction k_137 with
                      | zero =>
                        intro fi ftc lBc loc ltc lhc fBc foc ft_c fhc fxc fyc fzc H locs ls hm_137 g_fi g_lBc g_loc g_ltc g_lhc hP hD hS hl
                        exact ms_0 hm_137
                      | succ k_137 ih_137 =>
                        intro fi ftc lBc loc ltc lhc fBc foc ft_c fhc fxc fyc fzc H locs ls hm_137 g_fi g_lBc g_loc g_ltc g_lhc hP hD hS hl
                        refine lv_iload_n hx hb dX9_find_137 rfl (lv_at hl 5 rfl) ?_
                        refine lv_iconst (v := 2) hx hb dX9_find_138 (by decide) ?_
                        refine lv_icmp_le (tgt := 216) hx hb dX9_find_139 (by decide) (fun c_19 => ?_) (fun c_19 => ?_)
                        · have tc_19 : n.toInt ≤ 2 := v_le c_19
                          obtain ⟨x_20, ex_20⟩ : ∃ y : Int32, y = mi + 1 := ⟨_, rfl⟩
                          have tx_20 : x_20.toInt = mi.toInt + 1 := v_addR (l2 := 1) (h2 := 1) ex_20 g_mi (by decide) (by decide) (by decide)
                          refine lv_iinc (v := x_20) (lv' := [(5, .int x_20), (7, .int fi), (4, .int la), (3, .int lH), (0, .ref oR), (1, .int n), (2, .ref nx)]) hx hb dX9_find_216 hl (k := 1) rfl (by rw [ex_20]; rfl) (by decide) rfl (fun ls hl => ?_)
                          refine lv_goto (tgt := 68) hx hb dX9_find_219 (by decide) ?_
                          exact ih_68 x_20 ftc lBc loc ltc lhc fBc foc ft_c fhc fxc fyc fzc _ _ _ (ms_lt hm_68 (by show ((6 - x_20.toInt : Int)) < 6 - mi.toInt; omega) (by show (0 : Int) < 6 - mi.toInt; omega)) (by show 0 ≤ x_20.toInt ∧ x_20.toInt ≤ 6; omega) (g_lBc) (g_loc) (g_ltc) (g_lhc) (hP.sub [26, 27, 0, 1, 4, 5, 6, 7, 8, 9, 2, 3, 12, 13, 14, 15, 16, 17, 18, 19, 20, 21, 22, 23, 24, 25, 10, 11, 28, 29] rfl) (hD.sub [26, 27, 0, 1, 4, 5, 6, 7, 8, 9, 2, 3, 12, 13, 14, 15, 16, 17, 18, 19, 20, 21, 22, 23, 24, 25, 10, 11, 28, 29] (by decide +kernel) rfl) hS (lv_sub hl [0, 2, 3, 4, 5, 6] rfl)
                        · have tc_19 : 2 < n.toInt := v_nle c_19
                          refine lv_iload hx hb dX9_find_142 (lv_at hl 0 rfl) ?_
                          refine lv_iload_n hx hb dX9_find_144 rfl (lv_at hl 3 rfl) ?_
                          refine lv_icmp_ge (tgt := 216) hx hb dX9_find_145 (by decide) (fun c_21 => ?_) (fun c_21 => ?_)
                          · have tc_21 : lH.toInt ≤ fi.toInt := v_le c_21
                            obtain ⟨x_22, ex_22⟩ : ∃ y : Int32, y = mi + 1 := ⟨_, rfl⟩
                            have tx_22 : x_22.toInt = mi.toInt + 1 := v_addR (l2 := 1) (h2 := 1) ex_22 g_mi (by decide) (by decide) (by decide)
                            refine lv_iinc (v := x_22) (lv' := [(5, .int x_22), (7, .int fi), (4, .int la), (3, .int lH), (0, .ref oR), (1, .int n), (2, .ref nx)]) hx hb dX9_find_216 hl (k := 1) rfl (by rw [ex_22]; rfl) (by decide) rfl (fun ls hl => ?_)
                            refine lv_goto (tgt := 68) hx hb dX9_find_219 (by decide) ?_
                            exact ih_68 x_22 ftc lBc loc ltc lhc fBc foc ft_c fhc fxc fyc fzc _ _ _ (ms_lt hm_68 (by show ((6 - x_22.toInt : Int)) < 6 - mi.toInt; omega) (by show (0 : Int) < 6 - mi.toInt; omega)) (by show 0 ≤ x_22.toInt ∧ x_22.toInt ≤ 6; omega) (g_lBc) (g_loc) (g_ltc) (g_lhc) (hP.sub [26, 27, 0, 1, 4, 5, 6, 7, 8, 9, 2, 3, 12, 13, 14, 15, 16, 17, 18, 19, 20, 21, 22, 23, 24, 25, 10, 11, 28, 29] rfl) (hD.sub [26, 27, 0, 1, 4, 5, 6, 7, 8, 9, 2, 3, 12, 13, 14, 15, 16, 17, 18, 19, 20, 21, 22, 23, 24, 25, 10, 11, 28, 29] (by decide +kernel) rfl) hS (lv_sub hl [0, 2, 3, 4, 5, 6] rfl)
                          · have tc_21 : fi.toInt < lH.toInt := v_nle c_21
                            refine lv_aload_n hx hb dX9_find_148 rfl (lv_at hl 4 rfl) ?_
                            refine va_get (D := (dC, dI)) (ci := 9) (v := .ref oH) (C := RX9) (T := TX9) (N := 12) hx hb hts in_X9 hown hK hP 28 rfl rfl 0 (by decide) (hts (.fieldLink RX9 45 "TextMender$Rows" "harms" "LTextMender$Harms;") (List.mem_of_getElem? (i := 2) rfl)) (fun _ h9 => h9) rfl dX9_find_149 ?_
                            refine lv_iload hx hb dX9_find_152 (lv_at hl 0 rfl) ?_
                            refine lv_aload_n hx hb dX9_find_154 rfl (lv_at hl 4 rfl) ?_
                            refine va_get (D := (dC, dI)) (ci := 9) (v := .ref n2) (C := RX9) (T := TX9) (N := 12) hx hb hts in_X9 hown hK hP 28 rfl rfl 3 (by decide) (hts (.fieldLink RX9 20 "TextMender$Rows" "two" "LTextMender$Numbers;") (List.mem_of_getElem? (i := 4) rfl)) (fun _ h9 => h9) rfl dX9_find_155 ?_
                            refine lv_aload_n hx hb dX9_find_158 rfl (lv_at hl 4 rfl) ?_
                            refine va_get (D := (dC, dI)) (ci := 9) (v := .ref n3) (C := RX9) (T := TX9) (N := 12) hx hb hts in_X9 hown hK hP 28 rfl rfl 4 (by decide) (hts (.fieldLink RX9 23 "TextMender$Rows" "three" "LTextMender$Numbers;") (List.mem_of_getElem? (i := 5) rfl)) (fun _ h9 => h9) rfl dX9_find_159 ?_
                            refine kV_i (rest := []) (q0 := 0) (ci := 4) hcf (m_X4_takeOff l dC dI cI cS H.size oH n2 n3 oP h1 h2 oC nB aB a2 a3 o4 o5 a41 a42 a43 a51 a52 a53 lH fH1 fH2 ftc lBc fBc ltc ft_c lhc fhc l4 f41 f42 f43 l5 f51 f52 f53 fi (g_lH) (g_lBc) (g_ltc) (g_lhc)) kc_X4_takeOff gX9_find_X4_takeOff rfl rfl rfl ⟨Nat.le_of_ble_eq_true rfl, Nat.le_of_ble_eq_true rfl⟩ (kX_1 hN52) hK hP hD hS hA [4, 5, 6, 7, 8, 9, 26, 27, 0, 1, 12, 13, 14, 15, 16, 17, 18, 19, 20] [2, 3, 10, 11, 21, 22, 23, 24, 25, 28, 29] rfl (by decide +kernel) rfl rfl rfl hl rfl (Nat.le_of_ble_eq_true rfl) dX9_find_162 ⟨Nat.le_of_ble_eq_true rfl, Nat.le_of_ble_eq_true rfl⟩ (fun r_23 H locs hB hJ hSn => ?_)
                            obtain ⟨ft_23, lB_23, fB_23, ld_23, fd_23, ⟨hP1, hD1⟩, hf23_0, hf23_1, hf23_2⟩ := hB
                            obtain ⟨hPn, hDn⟩ := hJ _ hP1 hD1 [(nx, .inr (5, [.ref ax, .int lx])), (ax, .inl (cI, 300, .inl fx)), (n1, .inr (5, [.ref a1, .int loc])), (a1, .inl (cI, 300, .inl foc)), (r1, .inl (cI, 258, .inl fxc)), (r2, .inl (cI, 258, .inl fyc)), (oK, .inr (3, [.ref k1, .ref k2, .int lK])), (k1, .inl (cI, 1024, .inl fK1)), (k2, .inl (cI, 1024, .inl fK2)), (oR, .inr (9, [.ref oH, .ref oK, .ref n1, .ref n2, .ref n3, .ref r1, .ref r2, .ref r3, .ref r4, .ref r5, .ref r6, .int lR])), (r3, .inl (cI, 774, .inl fzc)), (oH, .inr (4, [.ref oP, .ref h1, .ref h2, .int lH])), (h1, .inl (cI, 6, .inl fH1)), (h2, .inl (cI, 6, .inl fH2)), (oP, .inr (7, [.ref oC, .ref nB, .int ft_23])), (nB, .inr (5, [.ref aB, .int lB_23])), (aB, .inl (cI, 2400, .inl fB_23)), (n2, .inr (5, [.ref a2, .int ltc])), (a2, .inl (cI, 300, .inl ft_c)), (n3, .inr (5, [.ref a3, .int ld_23])), (a3, .inl (cI, 300, .inl fd_23)), (oC, .inr (2, [.ref o4, .ref o5])), (o4, .inr (10, [.ref a41, .ref a42, .ref a43, .int l4])), (a41, .inl (cI, 256, .inl f41)), (a42, .inl (cI, 512, .inl f42)), (a43, .inl (cI, 512, .inl f43)), (o5, .inr (10, [.ref a51, .ref a52, .ref a53, .int l5])), (a51, .inl (cI, 256, .inl f51)), (a52, .inl (cI, 512, .inl f52)), (a53, .inl (cI, 512, .inl f53))] rfl
                            clear hP hD hS hJ hP1 hD1
                            have hP := hPn
                            have hD := hDn
                            have hS := hSn
                            clear hPn hDn hSn
                            refine lv_if_eq (tgt := 210) hx hb dX9_find_165 (by decide) (fun c_24 => ?_) (fun c_24 => ?_)
                            · have tc_24 : r_23.toInt = 0 := v_eq c_24
                              obtain ⟨x_25, ex_25⟩ : ∃ y : Int32, y = fi + 1 := ⟨_, rfl⟩
                              have tx_25 : x_25.toInt = fi.toInt + 1 := v_addR (l2 := 1) (h2 := 1) ex_25 g_fi (by decide) (by decide) (by decide)
                              refine lv_iinc (v := x_25) (lv' := [(7, .int x_25), (5, .int mi), (4, .int la), (3, .int lH), (0, .ref oR), (1, .int n), (2, .ref nx)]) hx hb dX9_find_210 hl (k := 0) rfl (by rw [ex_25]; rfl) (by decide) rfl (fun ls hl => ?_)
                              refine lv_goto (tgt := 137) hx hb dX9_find_213 (by decide) ?_
                              exact ih_137 x_25 ft_23 lB_23 loc ltc ld_23 fB_23 foc ft_c fd_23 fxc fyc fzc _ _ _ (ms_lt hm_137 (by show ((6 - x_25.toInt : Int)) < 6 - fi.toInt; omega) (by show (0 : Int) < 6 - fi.toInt; omega)) (by show 0 ≤ x_25.toInt ∧ x_25.toInt ≤ 6; omega) (hf23_0) (g_loc) (g_ltc) (hf23_1) (hP.sub [19, 20, 0, 1, 11, 12, 13, 14, 15, 16, 2, 3, 21, 22, 23, 24, 25, 26, 27, 28, 29, 4, 5, 6, 7, 8, 17, 18, 9, 10] rfl) (hD.sub [19, 20, 0, 1, 11, 12, 13, 14, 15, 16, 2, 3, 21, 22, 23, 24, 25, 26, 27, 28, 29, 4, 5, 6, 7, 8, 17, 18, 9, 10] (by decide +kernel) rfl) hS (lv_sub hl [0, 1, 2, 3, 4, 5, 6] rfl)
                            · have tc_24 : ¬ r_23.toInt = 0 := v_ne c_24
                              refine lv_iload_n hx hb dX9_find_168 rfl (lv_at hl 3 rfl) ?_
                              refine lv_iload_n hx hb dX9_find_169 rfl (lv_at hl 3 rfl) ?_
                              refine lv_iload_n hx hb dX9_find_170 rfl (lv_at hl 3 rfl) ?_
                              refine lv_imul hx hb dX9_find_171 ?_
                              refine lv_topi (fun x_26 ex_26 => ?_)
                              refine lv_iadd hx hb dX9_find_172 ?_
                              refine lv_topi (fun x_27 ex_27 => ?_)
                              have rv27_1 := v_rng x_26
                              refine lv_iload hx hb dX9_find_173 (lv_at hl 0 rfl) ?_
                              refine lv_iload_n hx hb dX9_find_175 rfl (lv_at hl 3 rfl) ?_
                              refine lv_imul hx hb dX9_find_176 ?_
                              refine lv_topi (fun x_28 ex_28 => ?_)
                              refine lv_iload hx hb dX9_find_177 (lv_at hl 1 rfl) ?_
                              refine lv_iadd hx hb dX9_find_179 ?_
                              refine lv_topi (fun x_29 ex_29 => ?_)
                              have rv29_0 := v_rng x_28
                              refine lv_iload_n hx hb dX9_find_180 rfl (lv_at hl 3 rfl) ?_
                              refine lv_imul hx hb dX9_find_181 ?_
                              refine lv_topi (fun x_30 ex_30 => ?_)
                              have rv30_0 := v_rng x_29
                              refine lv_iadd hx hb dX9_find_182 ?_
                              refine lv_topi (fun x_31 ex_31 => ?_)
                              have rv31_0 := v_rng x_27
                              have rv31_1 := v_rng x_30
                              refine lv_iload hx hb dX9_find_183 (lv_at hl 2 rfl) ?_
                              refine lv_iadd hx hb dX9_find_185 ?_
                              refine lv_topi (fun x_32 ex_32 => ?_)
                              have rv32_0 := v_rng x_31
                              refine lv_istore (lv' := [(8, .int x_32), (7, .int fi), (5, .int mi), (4, .int la), (3, .int lH), (0, .ref oR), (1, .int n), (2, .ref nx)]) hx hb dX9_find_186 hl (by decide) rfl (fun ls hl => ?_)
                              refine lv_aload_n hx hb dX9_find_188 rfl (lv_at hl 5 rfl) ?_
                              refine lv_iload hx hb dX9_find_189 (lv_at hl 0 rfl) ?_
                              refine lv_aload_n hx hb dX9_find_191 rfl (lv_at hl 5 rfl) ?_
                              refine va_get (D := (dC, dI)) (ci := 9) (v := .ref n3) (C := RX9) (T := TX9) (N := 12) hx hb hts in_X9 hown hK hP 9 rfl rfl 4 (by decide) (hts (.fieldLink RX9 23 "TextMender$Rows" "three" "LTextMender$Numbers;") (List.mem_of_getElem? (i := 5) rfl)) (fun _ h9 => h9) rfl dX9_find_192 ?_
                              refine kV_v (rest := []) (q0 := 0) (ci := 9) hcf (m_X9_note l dC dI cI cS H.size oR n3 oH oK n1 n2 n3 r1 r2 r3 r4 r5 r6 k1 k2 a3 lR fxc fyc lK fK1 fK2 ld_23 fd_23 x_32 (g_lR) (g_lK) (hf23_1)) kc_X9_note gX9_find_X9_note rfl rfl rfl ⟨Nat.le_of_ble_eq_true rfl, Nat.le_of_ble_eq_true rfl⟩ kX_t hK hP hD hS hA [9, 4, 5, 6, 7, 8, 19, 20] [0, 1, 2, 3, 10, 11, 12, 13, 14, 15, 16, 17, 18, 21, 22, 23, 24, 25, 26, 27, 28, 29] rfl (by decide +kernel) rfl rfl rfl hl rfl (Nat.le_of_ble_eq_true rfl) dX9_find_195 ⟨Nat.le_of_ble_eq_true rfl, Nat.le_of_ble_eq_true rfl⟩ (fun H locs hB hJ hSn => ?_)
                              obtain ⟨fR1_33, fR2_33, ⟨hP1, hD1⟩⟩ := hB
                              obtain ⟨hPn, hDn⟩ := hJ _ hP1 hD1 [(nx, .inr (5, [.ref ax, .int lx])), (ax, .inl (cI, 300, .inl fx)), (n1, .inr (5, [.ref a1, .int loc])), (a1, .inl (cI, 300, .inl foc)), (r3, .inl (cI, 774, .inl fzc)), (oH, .inr (4, [.ref oP, .ref h1, .ref h2, .int lH])), (h1, .inl (cI, 6, .inl fH1)), (h2, .inl (cI, 6, .inl fH2)), (oP, .inr (7, [.ref oC, .ref nB, .int ft_23])), (nB, .inr (5, [.ref aB, .int lB_23])), (aB, .inl (cI, 2400, .inl fB_23)), (n2, .inr (5, [.ref a2, .int ltc])), (a2, .inl (cI, 300, .inl ft_c)), (oC, .inr (2, [.ref o4, .ref o5])), (o4, .inr (10, [.ref a41, .ref a42, .ref a43, .int l4])), (a41, .inl (cI, 256, .inl f41)), (a42, .inl (cI, 512, .inl f42)), (a43, .inl (cI, 512, .inl f43)), (o5, .inr (10, [.ref a51, .ref a52, .ref a53, .int l5])), (a51, .inl (cI, 256, .inl f51)), (a52, .inl (cI, 512, .inl f52)), (a53, .inl (cI, 512, .inl f53)), (oR, .inr (9, [.ref oH, .ref oK, .ref n1, .ref n2, .ref n3, .ref r1, .ref r2, .ref r3, .ref r4, .ref r5, .ref r6, .int lR])), (r1, .inl (cI, 258, .inl fR1_33)), (r2, .inl (cI, 258, .inl fR2_33)), (oK, .inr (3, [.ref k1, .ref k2, .int lK])), (k1, .inl (cI, 1024, .inl fK1)), (k2, .inl (cI, 1024, .inl fK2)), (n3, .inr (5, [.ref a3, .int ld_23])), (a3, .inl (cI, 300, .inl fd_23))] rfl
                              clear hP hD hS hJ hP1 hD1
                              have hP := hPn
                              have hD := hDn
                              have hS := hSn
                              clear hPn hDn hSn
                              refine lv_aload_n hx hb dX9_find_198 rfl (lv_at hl 5 rfl) ?_
                              refine lv_iload hx hb dX9_find_199 (lv_at hl 0 rfl) ?_
                              refine lv_iload hx hb dX9_find_201 (lv_at hl 1 rfl) ?_
                              refine lv_iload hx hb dX9_find_203 (lv_at hl 2 rfl) ?_
                              refine lv_iload hx hb dX9_find_205 (lv_at hl 3 rfl) ?_
                              refine kV_v (rest := []) (q0 := 0) (ci := 9) hcf (m_X9_nameHarms l dC dI cI cS H.size oR oH oK n1 n2 n3 r1 r2 r3 r4 r5 r6 lR fzc x_32 fi mi la (g_lR)) kc_X9_nameHarms gX9_find_X9_nameHarms rfl rfl rfl ⟨Nat.le_of_ble_eq_true rfl, Nat.le_of_ble_eq_true rfl⟩ kX_t hK hP hD hS hA [22, 4] [0, 1, 2, 3, 5, 6, 7, 8, 9, 10, 11, 12, 13, 14, 15, 16, 17, 18, 19, 20, 21, 23, 24, 25, 26, 27, 28, 29] rfl (by decide +kernel) rfl rfl rfl hl rfl (Nat.le_of_ble_eq_true rfl) dX9_find_207 ⟨Nat.le_of_ble_eq_true rfl, Nat.le_of_ble_eq_true rfl⟩ (fun H locs hB hJ hSn => ?_)
                              obtain ⟨fR3_34, ⟨hP1, hD1⟩⟩ := hB
                              obtain ⟨hPn, hDn⟩ := hJ _ hP1 hD1 [(nx, .inr (5, [.ref ax, .int lx])), (ax, .inl (cI, 300, .inl fx)), (n1, .inr (5, [.ref a1, .int loc])), (a1, .inl (cI, 300, .inl foc)), (oH, .inr (4, [.ref oP, .ref h1, .ref h2, .int lH])), (h1, .inl (cI, 6, .inl fH1)), (h2, .inl (cI, 6, .inl fH2)), (oP, .inr (7, [.ref oC, .ref nB, .int ft_23])), (nB, .inr (5, [.ref aB, .int lB_23])), (aB, .inl (cI, 2400, .inl fB_23)), (n2, .inr (5, [.ref a2, .int ltc])), (a2, .inl (cI, 300, .inl ft_c)), (oC, .inr (2, [.ref o4, .ref o5])), (o4, .inr (10, [.ref a41, .ref a42, .ref a43, .int l4])), (a41, .inl (cI, 256, .inl f41)), (a42, .inl (cI, 512, .inl f42)), (a43, .inl (cI, 512, .inl f43)), (o5, .inr (10, [.ref a51, .ref a52, .ref a53, .int l5])), (a51, .inl (cI, 256, .inl f51)), (a52, .inl (cI, 512, .inl f52)), (a53, .inl (cI, 512, .inl f53)), (r1, .inl (cI, 258, .inl fR1_33)), (r2, .inl (cI, 258, .inl fR2_33)), (oK, .inr (3, [.ref k1, .ref k2, .int lK])), (k1, .inl (cI, 1024, .inl fK1)), (k2, .inl (cI, 1024, .inl fK2)), (n3, .inr (5, [.ref a3, .int ld_23])), (a3, .inl (cI, 300, .inl fd_23)), (oR, .inr (9, [.ref oH, .ref oK, .ref n1, .ref n2, .ref n3, .ref r1, .ref r2, .ref r3, .ref r4, .ref r5, .ref r6, .int lR])), (r3, .inl (cI, 774, .inl fR3_34))] rfl
                              clear hP hD hS hJ hP1 hD1
                              have hP := hPn
                              have hD := hDn
                              have hS := hSn
                              clear hPn hDn hSn
                              obtain ⟨x_35, ex_35⟩ : ∃ y : Int32, y = fi + 1 := ⟨_, rfl⟩
                              have tx_35 : x_35.toInt = fi.toInt + 1 := v_addR (l2 := 1) (h2 := 1) ex_35 g_fi (by decide) (by decide) (by decide)
                              refine lv_iinc (v := x_35) (lv' := [(7, .int x_35), (8, .int x_32), (5, .int mi), (4, .int la), (3, .int lH), (0, .ref oR), (1, .int n), (2, .ref nx)]) hx hb dX9_find_210 hl (k := 1) rfl (by rw [ex_35]; rfl) (by decide) rfl (fun ls hl => ?_)
                              refine lv_goto (tgt := 137) hx hb dX9_find_213 (by decide) ?_
                              exact ih_137 x_35 ft_23 lB_23 loc ltc ld_23 fB_23 foc ft_c fd_23 fR1_33 fR2_33 fR3_34 _ _ _ (ms_lt hm_137 (by show ((6 - x_35.toInt : Int)) < 6 - fi.toInt; omega) (by show (0 : Int) < 6 - fi.toInt; omega)) (by show 0 ≤ x_35.toInt ∧ x_35.toInt ≤ 6; omega) (hf23_0) (g_loc) (g_ltc) (hf23_1) (hP.sub [26, 27, 0, 1, 4, 5, 6, 7, 8, 9, 2, 3, 12, 13, 14, 15, 16, 17, 18, 19, 20, 21, 22, 23, 24, 25, 10, 11, 28, 29] rfl) (hD.sub [26, 27, 0, 1, 4, 5, 6, 7, 8, 9, 2, 3, 12, 13, 14, 15, 16, 17, 18, 19, 20, 21, 22, 23, 24, 25, 10, 11, 28, 29] (by decide +kernel) rfl) hS (lv_sub hl [0, 2, 3, 4, 5, 6, 7] rfl)
                    exact LOOP_137 _ 0 ft_12 lB_12 lob ld_12 lhb fB_12 fob fd_12 fhb fR1_17 fR2_17 fR3_18 _ _ _ (ms_s _) (by decide) (hf12_0) (g_lob) (hf12_1) (g_lhb) hP hD hS (lv_sub hl [0, 2, 3, 4, 5, 6, 7] rfl)
                  · have tc_13 : r_12.toInt = 0 := v_eq c_13
                    refine lv_goto (tgt := 216) hx hb dX9_find_99 (by decide) ?_
                    obtain ⟨x_36, ex_36⟩ : ∃ y : Int32, y = mi + 1 := ⟨_, rfl⟩
                    have tx_36 : x_36.toInt = mi.toInt + 1 := v_addR (l2 := 1) (h2 := 1) ex_36 g_mi (by decide) (by decide) (by decide)
                    refine lv_iinc (v := x_36) (lv' := [(5, .int x_36), (4, .int la), (3, .int lH), (0, .ref oR), (1, .int n), (2, .ref nx)]) hx hb dX9_find_216 hl (k := 0) rfl (by rw [ex_36]; rfl) (by decide) rfl (fun ls hl => ?_)
                    refine lv_goto (tgt := 68) hx hb dX9_find_219 (by decide) ?_
                    exact ih_68 x_36 ft_12 lB_12 lob ld_12 lhb fB_12 fob fd_12 fhb fxb fyb fzb _ _ _ (ms_lt hm_68 (by show ((6 - x_36.toInt : Int)) < 6 - mi.toInt; omega) (by show (0 : Int) < 6 - mi.toInt; omega)) (by show 0 ≤ x_36.toInt ∧ x_36.toInt ≤ 6; omega) (hf12_0) (g_lob) (hf12_1) (g_lhb) (hP.sub [19, 20, 0, 1, 11, 12, 13, 14, 15, 16, 2, 3, 21, 22, 23, 24, 25, 26, 27, 28, 29, 4, 5, 6, 7, 8, 17, 18, 9, 10] rfl) (hD.sub [19, 20, 0, 1, 11, 12, 13, 14, 15, 16, 2, 3, 21, 22, 23, 24, 25, 26, 27, 28, 29, 4, 5, 6, 7, 8, 17, 18, 9, 10] (by decide +kernel) rfl) hS (lv_sub hl [0, 1, 2, 3, 4, 5] rfl)
          exact LOOP_68 _ 0 ft_4 lB_4 ld_4 lta lha fB_4 fd_4 ft_a fha fR1_6 fR2_6 fR3_7 _ _ _ (ms_s _) (by decide) (hf4_0) (hf4_1) (g_lta) (g_lha) hP hD hS (lv_sub hl [0, 1, 2, 3, 4, 5] rfl)
        · have tc_5 : r_4.toInt = 0 := v_eq c_5
          refine lv_goto (tgt := 222) hx hb dX9_find_42 (by decide) ?_
          obtain ⟨x_37, ex_37⟩ : ∃ y : Int32, y = la + 1 := ⟨_, rfl⟩
          have tx_37 : x_37.toInt = la.toInt + 1 := v_addR (l2 := 1) (h2 := 1) ex_37 g_la (by decide) (by decide) (by decide)
          refine lv_iinc (v := x_37) (lv' := [(4, .int x_37), (3, .int lH), (0, .ref oR), (1, .int n), (2, .ref nx)]) hx hb dX9_find_222 hl (k := 0) rfl (by rw [ex_37]; rfl) (by decide) rfl (fun ls hl => ?_)
          refine lv_goto (tgt := 19) hx hb dX9_find_225 (by decide) ?_
          exact ih_19 x_37 ft_4 lB_4 ld_4 lta lha fB_4 fd_4 ft_a fha fxa fya fza _ _ _ (ms_lt hm_19 (by show ((6 - x_37.toInt : Int)) < 6 - la.toInt; omega) (by show (0 : Int) < 6 - la.toInt; omega)) (by show 0 ≤ x_37.toInt ∧ x_37.toInt ≤ 6; omega) (hf4_0) (hf4_1) (g_lta) (g_lha) (hP.sub [0, 1, 2, 19, 20, 3, 4, 5, 6, 12, 13, 14, 15, 16, 21, 22, 23, 24, 25, 26, 27, 28, 29, 7, 8, 9, 17, 18, 10, 11] rfl) (hD.sub [0, 1, 2, 19, 20, 3, 4, 5, 6, 12, 13, 14, 15, 16, 21, 22, 23, 24, 25, 26, 27, 28, 29, 7, 8, 9, 17, 18, 10, 11] (by decide +kernel) rfl) hS (lv_sub hl [0, 1, 2, 3, 4] rfl)
  exact LOOP_19 _ 0 ft lB l1 l2 l3 fB f1 f2 f3 f_1 fR2 fR3 _ _ _ (ms_s _) (by decide) (g_lB) (g_l1) (g_l2) (g_l3) hP hD hS (lv_sub hl [0, 1, 2, 3, 4] rfl)

set_option maxHeartbeats 40000000 in
set_option maxRecDepth 100000 in
theorem m_X9_keepFound (l : Launch) (dC : Nat → ClassId) (dI : Nat → Nat → Nat) (cI cS : ClassId) (sz : Nat) (oR : Nat) (oH : Nat) (oK : Nat) (n1 : Nat) (n2 : Nat) (n3 : Nat) (r1 : Nat) (r2 : Nat) (r3 : Nat) (r4 : Nat) (r5 : Nat) (r6 : Nat) (lR : Int32) (fR1 : Nat → Int32) (fR2 : Nat → Int32) (fR3 : Nat → Int32) (fR4 : Nat → Int32) (fR5 : Nat → Int32) (fR6 : Nat → Int32) (g_lR : 0 ≤ lR.toInt ∧ lR.toInt ≤ 258) : kMi l yX9_keepFound wsX9_keepFound ({ frames := 0, cells := 0, slots := 0, locals := 0 } : Room) [.ref oR] sz (dC, dI) vwCl [(cI, .int), (cS, .short)] [(oR, .inr (9, [.ref oH, .ref oK, .ref n1, .ref n2, .ref n3, .ref r1, .ref r2, .ref r3, .ref r4, .ref r5, .ref r6, .int lR])), (r1, .inl (cI, 258, .inl fR1)), (r2, .inl (cI, 258, .inl fR2)), (r3, .inl (cI, 774, .inl fR3)), (r4, .inl (cI, 258, .inl fR4)), (r5, .inl (cI, 258, .inl fR5)), (r6, .inl (cI, 774, .inl fR6))] (fun _ => True) 0 0 (fun (A : Nat → Prop) (r : Int32) (hh9 : Heap) => ∃ (lR' : Int32) (fR4' : Nat → Int32) (fR5' : Nat → Int32) (fR6' : Nat → Int32), kPD (dC, dI) vwCl A [(oR, .inr (9, [.ref oH, .ref oK, .ref n1, .ref n2, .ref n3, .ref r1, .ref r2, .ref r3, .ref r4, .ref r5, .ref r6, .int lR'])), (r1, .inl (cI, 258, .inl fR1)), (r2, .inl (cI, 258, .inl fR2)), (r3, .inl (cI, 774, .inl fR3)), (r4, .inl (cI, 258, .inl fR4')), (r5, .inl (cI, 258, .inl fR5')), (r6, .inl (cI, 774, .inl fR6'))] hh9 ∧ (0 ≤ lR'.toInt ∧ lR'.toInt ≤ 258)) := by
  refine kMi_of (cc := cX9_keepFound) (maxL := 3) (ret := (some .int)) (lv := [(0, .ref oR)]) (by decide +kernel) rfl rfl (Nat.le_of_ble_eq_true rfl) ?_
  intro p e s m below meth c A QQ ls hx hb hr hts hml hown hlocks hA hQQ hK hX hP hD hS hl
  have hown : s.vm.findClass RX9 = some m.cls := hown
  have hcf := k_cf hx hb hml hown hts
  have in_X9 : ∀ w ∈ wsX90, w ∈ wsX9_keepFound := fun _ h => List.mem_cons_of_mem _ (List.mem_append_right _ (h))
  replace g_lR := hid g_lR
  refine lv_aload_n hx hb dX9_keepFound_0 rfl (lv_at hl 0 rfl) ?_
  refine lv_iconst (v := 0) hx hb dX9_keepFound_1 (by decide) ?_
  refine va_put (D := (dC, dI)) (ci := 9) (v := .int 0) (ty := .int) (C := RX9) (T := TX9) (N := 12) hx hb hts in_X9 tyX9 tyX9_ok nmX9 hown hK hP hD hS 0 rfl rfl 11 (by decide) (hts (.fieldLink RX9 59 "TextMender$Rows" "told" "I") (List.mem_of_getElem? (i := 1) rfl)) (fun _ h9 => h9) rfl (by decide +kernel) rfl rfl (Nat.le_of_ble_eq_true rfl) dX9_keepFound_2 (kW (wn := [(oR, .inr (9, [.ref oH, .ref oK, .ref n1, .ref n2, .ref n3, .ref r1, .ref r2, .ref r3, .ref r4, .ref r5, .ref r6, .int 0])), (r1, .inl (cI, 258, .inl fR1)), (r2, .inl (cI, 258, .inl fR2)), (r3, .inl (cI, 774, .inl fR3)), (r4, .inl (cI, 258, .inl fR4)), (r5, .inl (cI, 258, .inl fR5)), (r6, .inl (cI, 774, .inl fR6))]) rfl (fun H locs hPn hDn hSn => ?_))
  clear hP hD hS
  have hP := hPn
  have hD := hDn
  have hS := hSn
  clear hPn hDn hSn
  refine lv_iconst (v := 0) hx hb dX9_keepFound_5 (by decide) ?_
  refine lv_istore_n (lv' := [(1, .int 0), (0, .ref oR)]) hx hb dX9_keepFound_6 rfl hl (by decide) rfl (fun ls hl => ?_)
  have LOOP_7 : ∀ (k_7 : Nat) (pl : Int32) (l2 : Int32) (f4 : Nat → Int32) (f5 : Nat → Int32) (f6 : Nat → Int32) (H : Heap) (locs : List Loc) (ls : Array Slot), MSd (258 - pl.toInt : Int) k_7 → (0 ≤ pl.toInt ∧ pl.toInt ≤ 258) → (0 ≤ l2.toInt ∧ l2.toInt ≤ pl.toInt) → va_P (dC, dI) vwCl [(oR, .inr (9, [.ref oH, .ref oK, .ref n1, .ref n2, .ref n3, .ref r1, .ref r2, .ref r3, .ref r4, .ref r5, .ref r6, .int l2])), (r1, .inl (cI, 258, .inl fR1)), (r2, .inl (cI, 258, .inl fR2)), (r3, .inl (cI, 774, .inl fR3)), (r4, .inl (cI, 258, .inl f4)), (r5, .inl (cI, 258, .inl f5)), (r6, .inl (cI, 774, .inl f6))] H → va_D A [(oR, .inr (9, [.ref oH, .ref oK, .ref n1, .ref n2, .ref n3, .ref r1, .ref r2, .ref r3, .ref r4, .ref r5, .ref r6, .int l2])), (r1, .inl (cI, 258, .inl fR1)), (r2, .inl (cI, 258, .inl fR2)), (r3, .inl (cI, 774, .inl fR3)), (r4, .inl (cI, 258, .inl f4)), (r5, .inl (cI, 258, .inl f5)), (r6, .inl (cI, 774, .inl f6))] → va_S A s.heap H locs → lv_has ls 3 [(1, .int pl), (0, .ref oR)] → W p l e (headSpec wsX9_keepFound ({ frames := 0, cells := 0, slots := 0, locals := 0 } : Room)).room s m ([.ref oR] : List Value).toArray below meth c H locs 0 0 (MQ below QQ ([.ref oR] : List Value).toArray s 0 0 A) (F0 m 7 ls []) := by
    clear hP hD hS hl
    intro k_7
    induction k_7 with
    | zero =>
      intro pl l2 f4 f5 f6 H locs ls hm_7 g_pl g_l2 hP hD hS hl
      exact ms_0 hm_7
    | succ k_7 ih_7 =>
      intro pl l2 f4 f5 f6 H locs ls hm_7 g_pl g_l2 hP hD hS hl
      refine lv_iload_n hx hb dX9_keepFound_7 rfl (lv_at hl 0 rfl) ?_
      refine lv_sipush (v := 258) hx hb dX9_keepFound_8 (by decide) ?_
      refine lv_icmp_ge (tgt := 106) hx hb dX9_keepFound_11 (by decide) (fun c_1 => ?_) (fun c_1 => ?_)
      · have tc_1 : 258 ≤ pl.toInt := v_le c_1
        refine lv_aload_n hx hb dX9_keepFound_106 rfl (lv_at hl 1 rfl) ?_
        refine va_get (D := (dC, dI)) (ci := 9) (v := .int l2) (C := RX9) (T := TX9) (N := 12) hx hb hts in_X9 hown hK hP 0 rfl rfl 11 (by decide) (hts (.fieldLink RX9 59 "TextMender$Rows" "told" "I") (List.mem_of_getElem? (i := 1) rfl)) (fun _ h9 => h9) rfl dX9_keepFound_107 ?_
        exact kl_i (v := l2) hQQ hx hb hr hlocks hS dX9_keepFound_110 ⟨l2, f4, f5, f6, ⟨hP, hD⟩, by omega⟩
      · have tc_1 : pl.toInt < 258 := v_nle c_1
        refine lv_aload_n hx hb dX9_keepFound_14 rfl (lv_at hl 1 rfl) ?_
        refine va_get (D := (dC, dI)) (ci := 9) (v := .ref r1) (C := RX9) (T := TX9) (N := 12) hx hb hts in_X9 hown hK hP 0 rfl rfl 5 (by decide) (hts (.fieldLink RX9 26 "TextMender$Rows" "foundCost" "[I") (List.mem_of_getElem? (i := 2) rfl)) (fun _ h9 => h9) rfl dX9_keepFound_15 ?_
        refine lv_iload_n hx hb dX9_keepFound_18 rfl (lv_at hl 0 rfl) ?_
        refine va_iald hx hb hK hP 1 0 rfl rfl (v_in (by omega)) dX9_keepFound_19 ?_
        refine lv_topi (fun x_2 ex_2 => ?_)
        refine lv_iconst (v := (-1)) hx hb dX9_keepFound_20 (by decide) ?_
        refine lv_icmp_eq (tgt := 100) hx hb dX9_keepFound_21 (by decide) (fun c_3 => ?_) (fun c_3 => ?_)
        · have tc_3 : x_2.toInt = (-1) := v_eq c_3
          obtain ⟨x_4, ex_4⟩ : ∃ y : Int32, y = pl + 1 := ⟨_, rfl⟩
          have tx_4 : x_4.toInt = pl.toInt + 1 := v_addR (l2 := 1) (h2 := 1) ex_4 g_pl (by decide) (by decide) (by decide)
          refine lv_iinc (v := x_4) (lv' := [(1, .int x_4), (0, .ref oR)]) hx hb dX9_keepFound_100 hl (k := 0) rfl (by rw [ex_4]; rfl) (by decide) rfl (fun ls hl => ?_)
          refine lv_goto (tgt := 7) hx hb dX9_keepFound_103 (by decide) ?_
          exact ih_7 x_4 l2 f4 f5 f6 _ _ _ (ms_lt hm_7 (by show ((258 - x_4.toInt : Int)) < 258 - pl.toInt; omega) (by show (0 : Int) < 258 - pl.toInt; omega)) (by show 0 ≤ x_4.toInt ∧ x_4.toInt ≤ 258; omega) (by show 0 ≤ l2.toInt ∧ l2.toInt ≤ x_4.toInt; omega) hP hD hS (lv_sub hl [0, 1] rfl)
        · have tc_3 : ¬ x_2.toInt = (-1) := v_ne c_3
          refine lv_aload_n hx hb dX9_keepFound_24 rfl (lv_at hl 1 rfl) ?_
          refine va_get (D := (dC, dI)) (ci := 9) (v := .ref r4) (C := RX9) (T := TX9) (N := 12) hx hb hts in_X9 hown hK hP 0 rfl rfl 8 (by decide) (hts (.fieldLink RX9 36 "TextMender$Rows" "toldCost" "[I") (List.mem_of_getElem? (i := 3) rfl)) (fun _ h9 => h9) rfl dX9_keepFound_25 ?_
          refine lv_aload_n hx hb dX9_keepFound_28 rfl (lv_at hl 1 rfl) ?_
          refine va_get (D := (dC, dI)) (ci := 9) (v := .int l2) (C := RX9) (T := TX9) (N := 12) hx hb hts in_X9 hown hK hP 0 rfl rfl 11 (by decide) (hts (.fieldLink RX9 59 "TextMender$Rows" "told" "I") (List.mem_of_getElem? (i := 1) rfl)) (fun _ h9 => h9) rfl dX9_keepFound_29 ?_
          refine lv_aload_n hx hb dX9_keepFound_32 rfl (lv_at hl 1 rfl) ?_
          refine va_get (D := (dC, dI)) (ci := 9) (v := .ref r1) (C := RX9) (T := TX9) (N := 12) hx hb hts in_X9 hown hK hP 0 rfl rfl 5 (by decide) (hts (.fieldLink RX9 26 "TextMender$Rows" "foundCost" "[I") (List.mem_of_getElem? (i := 2) rfl)) (fun _ h9 => h9) rfl dX9_keepFound_33 ?_
          refine lv_iload_n hx hb dX9_keepFound_36 rfl (lv_at hl 0 rfl) ?_
          refine va_iald hx hb hK hP 1 0 rfl rfl (v_in (by omega)) dX9_keepFound_37 ?_
          refine k_i (y := x_2) ex_2.symm ?_
          obtain ⟨f_5, ef_5⟩ : ∃ g : Nat → Int32, g = upd f4 (l2 : Int32).toNatClampNeg x_2 := ⟨_, rfl⟩
          refine va_iast hx hb hK hP hD hS 4 0 rfl rfl (v_in (by omega)) dX9_keepFound_38 (kWf (g := f_5) (F := fun f_5 => [(oR, .inr (9, [.ref oH, .ref oK, .ref n1, .ref n2, .ref n3, .ref r1, .ref r2, .ref r3, .ref r4, .ref r5, .ref r6, .int l2])), (r1, .inl (cI, 258, .inl fR1)), (r2, .inl (cI, 258, .inl fR2)), (r3, .inl (cI, 774, .inl fR3)), (r4, .inl (cI, 258, .inl f_5)), (r5, .inl (cI, 258, .inl f5)), (r6, .inl (cI, 774, .inl f6))]) ef_5 rfl (fun H locs hPn hDn hSn => ?_))
          clear hP hD hS
          have hP := hPn
          have hD := hDn
          have hS := hSn
          clear hPn hDn hSn
          refine lv_aload_n hx hb dX9_keepFound_39 rfl (lv_at hl 1 rfl) ?_
          refine va_get (D := (dC, dI)) (ci := 9) (v := .ref r5) (C := RX9) (T := TX9) (N := 12) hx hb hts in_X9 hown hK hP 0 rfl rfl 9 (by decide) (hts (.fieldLink RX9 39 "TextMender$Rows" "toldLength" "[I") (List.mem_of_getElem? (i := 4) rfl)) (fun _ h9 => h9) rfl dX9_keepFound_40 ?_
          refine lv_aload_n hx hb dX9_keepFound_43 rfl (lv_at hl 1 rfl) ?_
          refine va_get (D := (dC, dI)) (ci := 9) (v := .int l2) (C := RX9) (T := TX9) (N := 12) hx hb hts in_X9 hown hK hP 0 rfl rfl 11 (by decide) (hts (.fieldLink RX9 59 "TextMender$Rows" "told" "I") (List.mem_of_getElem? (i := 1) rfl)) (fun _ h9 => h9) rfl dX9_keepFound_44 ?_
          refine lv_aload_n hx hb dX9_keepFound_47 rfl (lv_at hl 1 rfl) ?_
          refine va_get (D := (dC, dI)) (ci := 9) (v := .ref r2) (C := RX9) (T := TX9) (N := 12) hx hb hts in_X9 hown hK hP 0 rfl rfl 6 (by decide) (hts (.fieldLink RX9 30 "TextMender$Rows" "foundLength" "[I") (List.mem_of_getElem? (i := 5) rfl)) (fun _ h9 => h9) rfl dX9_keepFound_48 ?_
          refine lv_iload_n hx hb dX9_keepFound_51 rfl (lv_at hl 0 rfl) ?_
          refine va_iald hx hb hK hP 2 0 rfl rfl (v_in (by omega)) dX9_keepFound_52 ?_
          refine lv_topi (fun x_6 ex_6 => ?_)
          obtain ⟨f_7, ef_7⟩ : ∃ g : Nat → Int32, g = upd f5 (l2 : Int32).toNatClampNeg x_6 := ⟨_, rfl⟩
          refine va_iast hx hb hK hP hD hS 5 0 rfl rfl (v_in (by omega)) dX9_keepFound_53 (kWf (g := f_7) (F := fun f_7 => [(oR, .inr (9, [.ref oH, .ref oK, .ref n1, .ref n2, .ref n3, .ref r1, .ref r2, .ref r3, .ref r4, .ref r5, .ref r6, .int l2])), (r1, .inl (cI, 258, .inl fR1)), (r2, .inl (cI, 258, .inl fR2)), (r3, .inl (cI, 774, .inl fR3)), (r4, .inl (cI, 258, .inl f_5)), (r5, .inl (cI, 258, .inl f_7)), (r6, .inl (cI, 774, .inl f6))]) ef_7 rfl (fun H locs hPn hDn hSn => ?_))
          clear hP hD hS
          have hP := hPn
          have hD := hDn
          have hS := hSn
          clear hPn hDn hSn
          refine lv_iconst (v := 0) hx hb dX9_keepFound_54 (by decide) ?_
          refine lv_istore_n (lv' := [(2, .int 0), (1, .int pl), (0, .ref oR)]) hx hb dX9_keepFound_55 rfl hl (by decide) rfl (fun ls hl => ?_)
          have LOOP_56 : ∀ (k_56 : Nat) (k : Int32) (f7 : Nat → Int32) (H : Heap) (locs : List Loc) (ls : Array Slot), MSd (3 - k.toInt : Int) k_56 → (0 ≤ k.toInt ∧ k.toInt ≤ 3) → va_P (dC, dI) vwCl [(oR, .inr (9, [.ref oH, .ref oK, .ref n1, .ref n2, .ref n3, .ref r1, .ref r2, .ref r3, .ref r4, .ref r5, .ref r6, .int l2])), (r1, .inl (cI, 258, .inl fR1)), (r2, .inl (cI, 258, .inl fR2)), (r3, .inl (cI, 774, .inl fR3)), (r4, .inl (cI, 258, .inl f_5)), (r5, .inl (cI, 258, .inl f_7)), (r6, .inl (cI, 774, .inl f7))] H → va_D A [(oR, .inr (9, [.ref oH, .ref oK, .ref n1, .ref n2, .ref n3, .ref r1, .ref r2, .ref r3, .ref r4, .ref r5, .ref r6, .int l2])), (r1, .inl (cI, 258, .inl fR1)), (r2, .inl (cI, 258, .inl fR2)), (r3, .inl (cI, 774, .inl fR3)), (r4, .inl (cI, 258, .inl f_5)), (r5, .inl (cI, 258, .inl f_7)), (r6, .inl (cI, 774, .inl f7))] → va_S A s.heap H locs → lv_has ls 3 [(2, .int k), (1, .int pl), (0, .ref oR)] → W p l e (headSpec wsX9_keepFound ({ frames := 0, cells := 0, slots := 0, locals := 0 } : Room)).room s m ([.ref oR] : List Value).toArray below meth c H locs 0 0 (MQ below QQ ([.ref oR] : List Value).toArray s 0 0 A) (F0 m 56 ls []) := by
            clear hP hD hS hl
            try (clear tc_3)
            intro k_56
            induction k_56 with
            | zero =>
              intro k f7 H locs ls hm_56 g_k hP hD hS hl
              exact ms_0 hm_56
            | succ k_56 ih_56 =>
              intro k f7 H locs ls hm_56 g_k hP hD hS hl
              refine lv_iload_n hx hb dX9_keepFound_56 rfl (lv_at hl 0 rfl) ?_
              refine lv_iconst (v := 3) hx hb dX9_keepFound_57 (by decide) ?_
              refine lv_icmp_ge (tgt := 90) hx hb dX9_keepFound_58 (by decide) (fun c_8 => ?_) (fun c_8 => ?_)
              · have tc_8 : 3 ≤ k.toInt := v_le c_8
                refine lv_aload_n hx hb dX9_keepFound_90 rfl (lv_at hl 2 rfl) ?_
                refine lv_dup hx hb dX9_keepFound_91 rfl ?_
                refine va_get (D := (dC, dI)) (ci := 9) (v := .int l2) (C := RX9) (T := TX9) (N := 12) hx hb hts in_X9 hown hK hP 0 rfl rfl 11 (by decide) (hts (.fieldLink RX9 59 "TextMender$Rows" "told" "I") (List.mem_of_getElem? (i := 1) rfl)) (fun _ h9 => h9) rfl dX9_keepFound_92 ?_
                refine lv_iconst (v := 1) hx hb dX9_keepFound_95 (by decide) ?_
                refine lv_iadd hx hb dX9_keepFound_96 ?_
                refine lv_topi (fun x_9 ex_9 => ?_)
                have tx_9 : x_9.toInt = l2.toInt + 1 := v_add ex_9 (by show -2147483648 ≤ l2.toInt + 1; omega) (by show l2.toInt + 1 < 2147483648; omega)
                refine va_put (D := (dC, dI)) (ci := 9) (v := .int x_9) (ty := .int) (C := RX9) (T := TX9) (N := 12) hx hb hts in_X9 tyX9 tyX9_ok nmX9 hown hK hP hD hS 0 rfl rfl 11 (by decide) (hts (.fieldLink RX9 59 "TextMender$Rows" "told" "I") (List.mem_of_getElem? (i := 1) rfl)) (fun _ h9 => h9) rfl (by decide +kernel) rfl rfl (Nat.le_of_ble_eq_true rfl) dX9_keepFound_97 (kW (wn := [(oR, .inr (9, [.ref oH, .ref oK, .ref n1, .ref n2, .ref n3, .ref r1, .ref r2, .ref r3, .ref r4, .ref r5, .ref r6, .int x_9])), (r1, .inl (cI, 258, .inl fR1)), (r2, .inl (cI, 258, .inl fR2)), (r3, .inl (cI, 774, .inl fR3)), (r4, .inl (cI, 258, .inl f_5)), (r5, .inl (cI, 258, .inl f_7)), (r6, .inl (cI, 774, .inl f7))]) rfl (fun H locs hPn hDn hSn => ?_))
                clear hP hD hS
                have hP := hPn
                have hD := hDn
                have hS := hSn
                clear hPn hDn hSn
                obtain ⟨x_10, ex_10⟩ : ∃ y : Int32, y = pl + 1 := ⟨_, rfl⟩
                have tx_10 : x_10.toInt = pl.toInt + 1 := v_addR (l2 := 1) (h2 := 1) ex_10 g_pl (by decide) (by decide) (by decide)
                refine lv_iinc (v := x_10) (lv' := [(1, .int x_10), (2, .int k), (0, .ref oR)]) hx hb dX9_keepFound_100 hl (k := 1) rfl (by rw [ex_10]; rfl) (by decide) rfl (fun ls hl => ?_)
                refine lv_goto (tgt := 7) hx hb dX9_keepFound_103 (by decide) ?_
                exact ih_7 x_10 x_9 f_5 f_7 f7 _ _ _ (ms_lt hm_7 (by show ((258 - x_10.toInt : Int)) < 258 - pl.toInt; omega) (by show (0 : Int) < 258 - pl.toInt; omega)) (by show 0 ≤ x_10.toInt ∧ x_10.toInt ≤ 258; omega) (by show 0 ≤ x_9.toInt ∧ x_9.toInt ≤ x_10.toInt; omega) hP hD hS (lv_sub hl [0, 2] rfl)
              · have tc_8 : k.toInt < 3 := v_nle c_8
                refine lv_aload_n hx hb dX9_keepFound_61 rfl (lv_at hl 2 rfl) ?_
                refine va_get (D := (dC, dI)) (ci := 9) (v := .ref r6) (C := RX9) (T := TX9) (N := 12) hx hb hts in_X9 hown hK hP 0 rfl rfl 10 (by decide) (hts (.fieldLink RX9 42 "TextMender$Rows" "toldHarms" "[I") (List.mem_of_getElem? (i := 6) rfl)) (fun _ h9 => h9) rfl dX9_keepFound_62 ?_
                refine lv_aload_n hx hb dX9_keepFound_65 rfl (lv_at hl 2 rfl) ?_
                refine va_get (D := (dC, dI)) (ci := 9) (v := .int l2) (C := RX9) (T := TX9) (N := 12) hx hb hts in_X9 hown hK hP 0 rfl rfl 11 (by decide) (hts (.fieldLink RX9 59 "TextMender$Rows" "told" "I") (List.mem_of_getElem? (i := 1) rfl)) (fun _ h9 => h9) rfl dX9_keepFound_66 ?_
                refine lv_iconst (v := 3) hx hb dX9_keepFound_69 (by decide) ?_
                refine lv_imul hx hb dX9_keepFound_70 ?_
                refine lv_topi (fun x_11 ex_11 => ?_)
                have tx_11 : x_11.toInt = l2.toInt * 3 := v_mul ex_11 (by show -2147483648 ≤ l2.toInt * 3; omega) (by show l2.toInt * 3 < 2147483648; omega)
                refine lv_iload_n hx hb dX9_keepFound_71 rfl (lv_at hl 0 rfl) ?_
                refine lv_iadd hx hb dX9_keepFound_72 ?_
                refine lv_topi (fun x_12 ex_12 => ?_)
                have tx_12 : x_12.toInt = x_11.toInt + k.toInt := v_add ex_12 (by show -2147483648 ≤ x_11.toInt + k.toInt; omega) (by show x_11.toInt + k.toInt < 2147483648; omega)
                refine lv_aload_n hx hb dX9_keepFound_73 rfl (lv_at hl 2 rfl) ?_
                refine va_get (D := (dC, dI)) (ci := 9) (v := .ref r3) (C := RX9) (T := TX9) (N := 12) hx hb hts in_X9 hown hK hP 0 rfl rfl 7 (by decide) (hts (.fieldLink RX9 33 "TextMender$Rows" "foundHarms" "[I") (List.mem_of_getElem? (i := 7) rfl)) (fun _ h9 => h9) rfl dX9_keepFound_74 ?_
                refine lv_iload_n hx hb dX9_keepFound_77 rfl (lv_at hl 1 rfl) ?_
                refine lv_iconst (v := 3) hx hb dX9_keepFound_78 (by decide) ?_
                refine lv_imul hx hb dX9_keepFound_79 ?_
                refine lv_topi (fun x_13 ex_13 => ?_)
                have tx_13 : x_13.toInt = pl.toInt * 3 := v_mul ex_13 (by show -2147483648 ≤ pl.toInt * 3; omega) (by show pl.toInt * 3 < 2147483648; omega)
                refine lv_iload_n hx hb dX9_keepFound_80 rfl (lv_at hl 0 rfl) ?_
                refine lv_iadd hx hb dX9_keepFound_81 ?_
                refine lv_topi (fun x_14 ex_14 => ?_)
                have tx_14 : x_14.toInt = x_13.toInt + k.toInt := v_add ex_14 (by show -2147483648 ≤ x_13.toInt + k.toInt; omega) (by show x_13.toInt + k.toInt < 2147483648; omega)
                refine va_iald hx hb hK hP 3 0 rfl rfl (v_in (by omega)) dX9_keepFound_82 ?_
                refine lv_topi (fun x_15 ex_15 => ?_)
                obtain ⟨f_16, ef_16⟩ : ∃ g : Nat → Int32, g = upd f7 (x_12 : Int32).toNatClampNeg x_15 := ⟨_, rfl⟩
                refine va_iast hx hb hK hP hD hS 6 0 rfl rfl (v_in (by omega)) dX9_keepFound_83 (kWf (g := f_16) (F := fun f_16 => [(oR, .inr (9, [.ref oH, .ref oK, .ref n1, .ref n2, .ref n3, .ref r1, .ref r2, .ref r3, .ref r4, .ref r5, .ref r6, .int l2])), (r1, .inl (cI, 258, .inl fR1)), (r2, .inl (cI, 258, .inl fR2)), (r3, .inl (cI, 774, .inl fR3)), (r4, .inl (cI, 258, .inl f_5)), (r5, .inl (cI, 258, .inl f_7)), (r6, .inl (cI, 774, .inl f_16))]) ef_16 rfl (fun H locs hPn hDn hSn => ?_))
                clear hP hD hS
                have hP := hPn
                have hD := hDn
                have hS := hSn
                clear hPn hDn hSn
                obtain ⟨x_17, ex_17⟩ : ∃ y : Int32, y = k + 1 := ⟨_, rfl⟩
                have tx_17 : x_17.toInt = k.toInt + 1 := v_addR (l2 := 1) (h2 := 1) ex_17 g_k (by decide) (by decide) (by decide)
                refine lv_iinc (v := x_17) (lv' := [(2, .int x_17), (1, .int pl), (0, .ref oR)]) hx hb dX9_keepFound_84 hl (k := 0) rfl (by rw [ex_17]; rfl) (by decide) rfl (fun ls hl => ?_)
                refine lv_goto (tgt := 56) hx hb dX9_keepFound_87 (by decide) ?_
                exact ih_56 x_17 f_16 _ _ _ (ms_lt hm_56 (by show ((3 - x_17.toInt : Int)) < 3 - k.toInt; omega) (by show (0 : Int) < 3 - k.toInt; omega)) (by show 0 ≤ x_17.toInt ∧ x_17.toInt ≤ 3; omega) hP hD hS (lv_sub hl [0, 1, 2] rfl)
          exact LOOP_56 _ 0 f6 _ _ _ (ms_s _) (by decide) hP hD hS (lv_sub hl [0, 1, 2] rfl)
  exact LOOP_7 _ 0 0 fR4 fR5 fR6 _ _ _ (ms_s _) (by decide) (by show 0 ≤ (0 : Int) ∧ (0 : Int) ≤ 0; omega) hP hD hS (lv_sub hl [0, 1] rfl)

set_option maxHeartbeats 40000000 in
set_option maxRecDepth 100000 in
theorem m_X9_told (l : Launch) (dC : Nat → ClassId) (dI : Nat → Nat → Nat) (cI cS : ClassId) (sz : Nat) (oR : Nat) (oH : Nat) (oK : Nat) (n1 : Nat) (n2 : Nat) (n3 : Nat) (r1 : Nat) (r2 : Nat) (r3 : Nat) (r4 : Nat) (r5 : Nat) (r6 : Nat) (lR : Int32) (fR4 : Nat → Int32) (fR5 : Nat → Int32) (fR6 : Nat → Int32) (i : Int32) (wh : Int32) (g_lR : 0 ≤ lR.toInt ∧ lR.toInt ≤ 258) : kMi l yX9_told wsX9_told ({ frames := 0, cells := 0, slots := 0, locals := 0 } : Room) [.ref oR, .int i, .int wh] sz (dC, dI) vwCl [(cI, .int), (cS, .short)] [(oR, .inr (9, [.ref oH, .ref oK, .ref n1, .ref n2, .ref n3, .ref r1, .ref r2, .ref r3, .ref r4, .ref r5, .ref r6, .int lR])), (r4, .inl (cI, 258, .inl fR4)), (r5, .inl (cI, 258, .inl fR5)), (r6, .inl (cI, 774, .inl fR6))] (fun _ => True) 0 0 (fun (A : Nat → Prop) (r : Int32) (hh9 : Heap) => kPD (dC, dI) vwCl A [(oR, .inr (9, [.ref oH, .ref oK, .ref n1, .ref n2, .ref n3, .ref r1, .ref r2, .ref r3, .ref r4, .ref r5, .ref r6, .int lR])), (r4, .inl (cI, 258, .inl fR4)), (r5, .inl (cI, 258, .inl fR5)), (r6, .inl (cI, 774, .inl fR6))] hh9) := by
  refine kMi_of (cc := cX9_told) (maxL := 4) (ret := (some .int)) (lv := [(0, .ref oR), (1, .int i), (2, .int wh)]) (by decide +kernel) rfl rfl (Nat.le_of_ble_eq_true rfl) ?_
  intro p e s m below meth c A QQ ls hx hb hr hts hml hown hlocks hA hQQ hK hX hP hD hS hl
  have hown : s.vm.findClass RX9 = some m.cls := hown
  have hcf := k_cf hx hb hml hown hts
  have in_X9 : ∀ w ∈ wsX90, w ∈ wsX9_told := fun _ h => List.mem_cons_of_mem _ (List.mem_append_right _ (h))
  refine lv_iload_n hx hb dX9_told_0 rfl (lv_at hl 1 rfl) ?_
  refine lv_if_lt (tgt := 12) hx hb dX9_told_1 (by decide) (fun c_1 => ?_) (fun c_1 => ?_)
  · have tc_1 : i.toInt < 0 := v_lt c_1
    refine lv_iconst (v := (-1)) hx hb dX9_told_12 (by decide) ?_
    exact kl_i (v := (-1)) hQQ hx hb hr hlocks hS dX9_told_13 ⟨hP, hD⟩
  · have tc_1 : 0 ≤ i.toInt := v_nlt c_1
    refine lv_iload_n hx hb dX9_told_4 rfl (lv_at hl 1 rfl) ?_
    refine lv_aload_n hx hb dX9_told_5 rfl (lv_at hl 0 rfl) ?_
    refine va_get (D := (dC, dI)) (ci := 9) (v := .int lR) (C := RX9) (T := TX9) (N := 12) hx hb hts in_X9 hown hK hP 0 rfl rfl 11 (by decide) (hts (.fieldLink RX9 59 "TextMender$Rows" "told" "I") (List.mem_of_getElem? (i := 1) rfl)) (fun _ h9 => h9) rfl dX9_told_6 ?_
    refine lv_icmp_lt (tgt := 14) hx hb dX9_told_9 (by decide) (fun c_2 => ?_) (fun c_2 => ?_)
    · have tc_2 : i.toInt < lR.toInt := v_lt c_2
      have rw2_0 := v_rng i
      refine lv_iload_n hx hb dX9_told_14 rfl (lv_at hl 1 rfl) ?_
      refine lv_iconst (v := 3) hx hb dX9_told_15 (by decide) ?_
      refine lv_imul hx hb dX9_told_16 ?_
      refine lv_topi (fun x_3 ex_3 => ?_)
      have tx_3 : x_3.toInt = i.toInt * 3 := v_mul ex_3 (by show -2147483648 ≤ i.toInt * 3; omega) (by show i.toInt * 3 < 2147483648; omega)
      refine lv_istore_n (lv' := [(3, .int x_3), (0, .ref oR), (1, .int i), (2, .int wh)]) hx hb dX9_told_17 rfl hl (by decide) rfl (fun ls hl => ?_)
      refine lv_iload_n hx hb dX9_told_18 rfl (lv_at hl 3 rfl) ?_
      by_cases c_4 : wh = 0
      · refine lv_tableIn (tgt := 56) hx hb dX9_told_19 (by rw [c_4]; decide) (by rw [c_4]; decide) (by rw [c_4]; rfl) (by decide) ?_
        have tc_4 : wh.toInt = 0 := v_eq c_4
        refine lv_aload_n hx hb dX9_told_56 rfl (lv_at hl 1 rfl) ?_
        refine va_get (D := (dC, dI)) (ci := 9) (v := .ref r6) (C := RX9) (T := TX9) (N := 12) hx hb hts in_X9 hown hK hP 0 rfl rfl 10 (by decide) (hts (.fieldLink RX9 42 "TextMender$Rows" "toldHarms" "[I") (List.mem_of_getElem? (i := 2) rfl)) (fun _ h9 => h9) rfl dX9_told_57 ?_
        refine lv_iload_n hx hb dX9_told_60 rfl (lv_at hl 0 rfl) ?_
        refine lv_iconst (v := 1) hx hb dX9_told_61 (by decide) ?_
        refine lv_iadd hx hb dX9_told_62 ?_
        refine lv_topi (fun x_5 ex_5 => ?_)
        have tx_5 : x_5.toInt = x_3.toInt + 1 := v_add ex_5 (by show -2147483648 ≤ x_3.toInt + 1; omega) (by show x_3.toInt + 1 < 2147483648; omega)
        refine va_iald hx hb hK hP 3 0 rfl rfl (v_in (by omega)) dX9_told_63 ?_
        refine lv_topi (fun x_6 ex_6 => ?_)
        refine lv_iconst (v := (-1)) hx hb dX9_told_64 (by decide) ?_
        refine lv_icmp_ne (tgt := 72) hx hb dX9_told_65 (by decide) (fun c_7 => ?_) (fun c_7 => ?_)
        · have tc_7 : ¬ x_6.toInt = (-1) := v_ne c_7
          refine lv_aload_n hx hb dX9_told_72 rfl (lv_at hl 1 rfl) ?_
          refine va_get (D := (dC, dI)) (ci := 9) (v := .ref r6) (C := RX9) (T := TX9) (N := 12) hx hb hts in_X9 hown hK hP 0 rfl rfl 10 (by decide) (hts (.fieldLink RX9 42 "TextMender$Rows" "toldHarms" "[I") (List.mem_of_getElem? (i := 2) rfl)) (fun _ h9 => h9) rfl dX9_told_73 ?_
          refine lv_iload_n hx hb dX9_told_76 rfl (lv_at hl 0 rfl) ?_
          refine lv_iconst (v := 2) hx hb dX9_told_77 (by decide) ?_
          refine lv_iadd hx hb dX9_told_78 ?_
          refine lv_topi (fun x_8 ex_8 => ?_)
          have tx_8 : x_8.toInt = x_3.toInt + 2 := v_add ex_8 (by show -2147483648 ≤ x_3.toInt + 2; omega) (by show x_3.toInt + 2 < 2147483648; omega)
          refine va_iald hx hb hK hP 3 0 rfl rfl (v_in (by omega)) dX9_told_79 ?_
          refine lv_topi (fun x_9 ex_9 => ?_)
          refine lv_iconst (v := (-1)) hx hb dX9_told_80 (by decide) ?_
          refine lv_icmp_ne (tgt := 88) hx hb dX9_told_81 (by decide) (fun c_10 => ?_) (fun c_10 => ?_)
          · have tc_10 : ¬ x_9.toInt = (-1) := v_ne c_10
            refine lv_iconst (v := 3) hx hb dX9_told_88 (by decide) ?_
            exact kl_i (v := 3) hQQ hx hb hr hlocks hS dX9_told_89 ⟨hP, hD⟩
          · have tc_10 : x_9.toInt = (-1) := v_eq c_10
            refine lv_iconst (v := 2) hx hb dX9_told_84 (by decide) ?_
            refine lv_goto (tgt := 89) hx hb dX9_told_85 (by decide) ?_
            exact kl_i (v := 2) hQQ hx hb hr hlocks hS dX9_told_89 ⟨hP, hD⟩
        · have tc_7 : x_6.toInt = (-1) := v_eq c_7
          refine lv_iconst (v := 1) hx hb dX9_told_68 (by decide) ?_
          refine lv_goto (tgt := 89) hx hb dX9_told_69 (by decide) ?_
          exact kl_i (v := 1) hQQ hx hb hr hlocks hS dX9_told_89 ⟨hP, hD⟩
      · skip
        have tc_4 : ¬ wh.toInt = 0 := v_ne c_4
        by_cases c_11 : wh = 1
        · refine lv_tableIn (tgt := 90) hx hb dX9_told_19 (by rw [c_11]; decide) (by rw [c_11]; decide) (by rw [c_11]; rfl) (by decide) ?_
          have tc_11 : wh.toInt = 1 := v_eq c_11
          refine lv_aload_n hx hb dX9_told_90 rfl (lv_at hl 1 rfl) ?_
          refine va_get (D := (dC, dI)) (ci := 9) (v := .ref r6) (C := RX9) (T := TX9) (N := 12) hx hb hts in_X9 hown hK hP 0 rfl rfl 10 (by decide) (hts (.fieldLink RX9 42 "TextMender$Rows" "toldHarms" "[I") (List.mem_of_getElem? (i := 2) rfl)) (fun _ h9 => h9) rfl dX9_told_91 ?_
          refine lv_iload_n hx hb dX9_told_94 rfl (lv_at hl 0 rfl) ?_
          refine va_iald hx hb hK hP 3 0 rfl rfl (v_in (by omega)) dX9_told_95 ?_
          refine lv_topi (fun x_12 ex_12 => ?_)
          exact kl_i (v := x_12) hQQ hx hb hr hlocks hS dX9_told_96 ⟨hP, hD⟩
        · skip
          have tc_11 : ¬ wh.toInt = 1 := v_ne c_11
          by_cases c_13 : wh = 2
          · refine lv_tableIn (tgt := 97) hx hb dX9_told_19 (by rw [c_13]; decide) (by rw [c_13]; decide) (by rw [c_13]; rfl) (by decide) ?_
            have tc_13 : wh.toInt = 2 := v_eq c_13
            refine lv_aload_n hx hb dX9_told_97 rfl (lv_at hl 1 rfl) ?_
            refine va_get (D := (dC, dI)) (ci := 9) (v := .ref r6) (C := RX9) (T := TX9) (N := 12) hx hb hts in_X9 hown hK hP 0 rfl rfl 10 (by decide) (hts (.fieldLink RX9 42 "TextMender$Rows" "toldHarms" "[I") (List.mem_of_getElem? (i := 2) rfl)) (fun _ h9 => h9) rfl dX9_told_98 ?_
            refine lv_iload_n hx hb dX9_told_101 rfl (lv_at hl 0 rfl) ?_
            refine lv_iconst (v := 1) hx hb dX9_told_102 (by decide) ?_
            refine lv_iadd hx hb dX9_told_103 ?_
            refine lv_topi (fun x_14 ex_14 => ?_)
            have tx_14 : x_14.toInt = x_3.toInt + 1 := v_add ex_14 (by show -2147483648 ≤ x_3.toInt + 1; omega) (by show x_3.toInt + 1 < 2147483648; omega)
            refine va_iald hx hb hK hP 3 0 rfl rfl (v_in (by omega)) dX9_told_104 ?_
            refine lv_topi (fun x_15 ex_15 => ?_)
            exact kl_i (v := x_15) hQQ hx hb hr hlocks hS dX9_told_105 ⟨hP, hD⟩
          · skip
            have tc_13 : ¬ wh.toInt = 2 := v_ne c_13
            by_cases c_16 : wh = 3
            · refine lv_tableIn (tgt := 106) hx hb dX9_told_19 (by rw [c_16]; decide) (by rw [c_16]; decide) (by rw [c_16]; rfl) (by decide) ?_
              have tc_16 : wh.toInt = 3 := v_eq c_16
              refine lv_aload_n hx hb dX9_told_106 rfl (lv_at hl 1 rfl) ?_
              refine va_get (D := (dC, dI)) (ci := 9) (v := .ref r6) (C := RX9) (T := TX9) (N := 12) hx hb hts in_X9 hown hK hP 0 rfl rfl 10 (by decide) (hts (.fieldLink RX9 42 "TextMender$Rows" "toldHarms" "[I") (List.mem_of_getElem? (i := 2) rfl)) (fun _ h9 => h9) rfl dX9_told_107 ?_
              refine lv_iload_n hx hb dX9_told_110 rfl (lv_at hl 0 rfl) ?_
              refine lv_iconst (v := 2) hx hb dX9_told_111 (by decide) ?_
              refine lv_iadd hx hb dX9_told_112 ?_
              refine lv_topi (fun x_17 ex_17 => ?_)
              have tx_17 : x_17.toInt = x_3.toInt + 2 := v_add ex_17 (by show -2147483648 ≤ x_3.toInt + 2; omega) (by show x_3.toInt + 2 < 2147483648; omega)
              refine va_iald hx hb hK hP 3 0 rfl rfl (v_in (by omega)) dX9_told_113 ?_
              refine lv_topi (fun x_18 ex_18 => ?_)
              exact kl_i (v := x_18) hQQ hx hb hr hlocks hS dX9_told_114 ⟨hP, hD⟩
            · skip
              have tc_16 : ¬ wh.toInt = 3 := v_ne c_16
              by_cases c_19 : wh = 4
              · refine lv_tableIn (tgt := 115) hx hb dX9_told_19 (by rw [c_19]; decide) (by rw [c_19]; decide) (by rw [c_19]; rfl) (by decide) ?_
                have tc_19 : wh.toInt = 4 := v_eq c_19
                refine lv_aload_n hx hb dX9_told_115 rfl (lv_at hl 1 rfl) ?_
                refine va_get (D := (dC, dI)) (ci := 9) (v := .ref r4) (C := RX9) (T := TX9) (N := 12) hx hb hts in_X9 hown hK hP 0 rfl rfl 8 (by decide) (hts (.fieldLink RX9 36 "TextMender$Rows" "toldCost" "[I") (List.mem_of_getElem? (i := 3) rfl)) (fun _ h9 => h9) rfl dX9_told_116 ?_
                refine lv_iload_n hx hb dX9_told_119 rfl (lv_at hl 2 rfl) ?_
                refine va_iald hx hb hK hP 1 0 rfl rfl (v_in (by omega)) dX9_told_120 ?_
                refine lv_topi (fun x_20 ex_20 => ?_)
                exact kl_i (v := x_20) hQQ hx hb hr hlocks hS dX9_told_121 ⟨hP, hD⟩
              · skip
                have tc_19 : ¬ wh.toInt = 4 := v_ne c_19
                by_cases c_21 : wh = 5
                · refine lv_tableIn (tgt := 122) hx hb dX9_told_19 (by rw [c_21]; decide) (by rw [c_21]; decide) (by rw [c_21]; rfl) (by decide) ?_
                  have tc_21 : wh.toInt = 5 := v_eq c_21
                  refine lv_aload_n hx hb dX9_told_122 rfl (lv_at hl 1 rfl) ?_
                  refine va_get (D := (dC, dI)) (ci := 9) (v := .ref r5) (C := RX9) (T := TX9) (N := 12) hx hb hts in_X9 hown hK hP 0 rfl rfl 9 (by decide) (hts (.fieldLink RX9 39 "TextMender$Rows" "toldLength" "[I") (List.mem_of_getElem? (i := 4) rfl)) (fun _ h9 => h9) rfl dX9_told_123 ?_
                  refine lv_iload_n hx hb dX9_told_126 rfl (lv_at hl 2 rfl) ?_
                  refine va_iald hx hb hK hP 2 0 rfl rfl (v_in (by omega)) dX9_told_127 ?_
                  refine lv_topi (fun x_22 ex_22 => ?_)
                  exact kl_i (v := x_22) hQQ hx hb hr hlocks hS dX9_told_128 ⟨hP, hD⟩
                · skip
                  have tc_21 : ¬ wh.toInt = 5 := v_ne c_21
                  refine lv_tableOut (tgt := 129) hx hb dX9_told_19 (by omega) (by decide) ?_
                  refine lv_iconst (v := (-1)) hx hb dX9_told_129 (by decide) ?_
                  exact kl_i (v := (-1)) hQQ hx hb hr hlocks hS dX9_told_130 ⟨hP, hD⟩
    · have tc_2 : lR.toInt ≤ i.toInt := v_nlt c_2
      have rw2_0 := v_rng i
      refine lv_iconst (v := (-1)) hx hb dX9_told_12 (by decide) ?_
      exact kl_i (v := (-1)) hQQ hx hb hr hlocks hS dX9_told_13 ⟨hP, hD⟩

end

/-! 32.a.rows -/
section
set_option maxRecDepth 100000 in
theorem dA88_cX8_reached : kDec cX8_reached [(0, .aload_n 0, 1), (1, .getfield 19, 3), (4, .ireturn, 1)] = true := by decide +kernel
theorem dX8_reached_0 : decode cX8_reached 0 = .ok (.aload_n 0, 1) := kDec_at dA88_cX8_reached 0 rfl
theorem dX8_reached_1 : decode cX8_reached 1 = .ok (.getfield 19, 3) := kDec_at dA88_cX8_reached 1 rfl
theorem dX8_reached_4 : decode cX8_reached 4 = .ok (.ireturn, 1) := kDec_at dA88_cX8_reached 2 rfl
set_option maxRecDepth 100000 in
theorem dA89_cX8_letters : kDec cX8_letters [(0, .aload_n 0, 1), (1, .getfield 29, 3), (4, .ireturn, 1)] = true := by decide +kernel
theorem dX8_letters_0 : decode cX8_letters 0 = .ok (.aload_n 0, 1) := kDec_at dA89_cX8_letters 0 rfl
theorem dX8_letters_1 : decode cX8_letters 1 = .ok (.getfield 29, 3) := kDec_at dA89_cX8_letters 1 rfl
theorem dX8_letters_4 : decode cX8_letters 4 = .ok (.ireturn, 1) := kDec_at dA89_cX8_letters 2 rfl

end

/-! 32.parting -/
section
set_option maxHeartbeats 40000000 in
set_option maxRecDepth 100000 in
theorem m_X8_reached (l : Launch) (dC : Nat → ClassId) (dI : Nat → Nat → Nat) (cI cS : ClassId) (sz : Nat) (oE : Nat) (oC : Nat) (oK : Nat) (reE : Int32) (laE : Int32) (suE : Int32) (leE : Int32)  : kMi l yX8_reached wsX8_reached ({ frames := 0, cells := 0, slots := 0, locals := 0 } : Room) [.ref oE] sz (dC, dI) vwCl [(cI, .int), (cS, .short)] [(oE, .inr (8, [.ref oC, .ref oK, .int reE, .int laE, .int suE, .int leE]))] (fun _ => True) 0 0 (fun (A : Nat → Prop) (r : Int32) (hh9 : Heap) => kPD (dC, dI) vwCl A [(oE, .inr (8, [.ref oC, .ref oK, .int reE, .int laE, .int suE, .int leE]))] hh9 ∧ (r = reE)) := by
  refine kMi_of (cc := cX8_reached) (maxL := 1) (ret := (some .int)) (lv := [(0, .ref oE)]) (by decide +kernel) rfl rfl (Nat.le_of_ble_eq_true rfl) ?_
  intro p e s m below meth c A QQ ls hx hb hr hts hml hown hlocks hA hQQ hK hX hP hD hS hl
  have hown : s.vm.findClass RX8 = some m.cls := hown
  have hcf := k_cf hx hb hml hown hts
  have in_X8 : ∀ w ∈ wsX80, w ∈ wsX8_reached := fun _ h => List.mem_cons_of_mem _ (List.mem_append_right _ (h))
  refine lv_aload_n hx hb dX8_reached_0 rfl (lv_at hl 0 rfl) ?_
  refine va_get (D := (dC, dI)) (ci := 8) (v := .int reE) (C := RX8) (T := TX8) (N := 6) hx hb hts in_X8 hown hK hP 0 rfl rfl 2 (by decide) (hts (.fieldLink RX8 19 "TextMender$Reading" "reached" "I") (List.mem_of_getElem? (i := 1) rfl)) (fun _ h9 => h9) rfl dX8_reached_1 ?_
  exact kl_i (v := reE) hQQ hx hb hr hlocks hS dX8_reached_4 ⟨⟨hP, hD⟩, rfl⟩

set_option maxHeartbeats 40000000 in
set_option maxRecDepth 100000 in
theorem m_X8_letters (l : Launch) (dC : Nat → ClassId) (dI : Nat → Nat → Nat) (cI cS : ClassId) (sz : Nat) (oE : Nat) (oC : Nat) (oK : Nat) (reE : Int32) (laE : Int32) (suE : Int32) (leE : Int32)  : kMi l yX8_letters wsX8_letters ({ frames := 0, cells := 0, slots := 0, locals := 0 } : Room) [.ref oE] sz (dC, dI) vwCl [(cI, .int), (cS, .short)] [(oE, .inr (8, [.ref oC, .ref oK, .int reE, .int laE, .int suE, .int leE]))] (fun _ => True) 0 0 (fun (A : Nat → Prop) (r : Int32) (hh9 : Heap) => kPD (dC, dI) vwCl A [(oE, .inr (8, [.ref oC, .ref oK, .int reE, .int laE, .int suE, .int leE]))] hh9 ∧ (r = leE)) := by
  refine kMi_of (cc := cX8_letters) (maxL := 1) (ret := (some .int)) (lv := [(0, .ref oE)]) (by decide +kernel) rfl rfl (Nat.le_of_ble_eq_true rfl) ?_
  intro p e s m below meth c A QQ ls hx hb hr hts hml hown hlocks hA hQQ hK hX hP hD hS hl
  have hown : s.vm.findClass RX8 = some m.cls := hown
  have hcf := k_cf hx hb hml hown hts
  have in_X8 : ∀ w ∈ wsX80, w ∈ wsX8_letters := fun _ h => List.mem_cons_of_mem _ (List.mem_append_right _ (h))
  refine lv_aload_n hx hb dX8_letters_0 rfl (lv_at hl 0 rfl) ?_
  refine va_get (D := (dC, dI)) (ci := 8) (v := .int leE) (C := RX8) (T := TX8) (N := 6) hx hb hts in_X8 hown hK hP 0 rfl rfl 5 (by decide) (hts (.fieldLink RX8 29 "TextMender$Reading" "letters" "I") (List.mem_of_getElem? (i := 1) rfl)) (fun _ h9 => h9) rfl dX8_letters_1 ?_
  exact kl_i (v := leE) hQQ hx hb hr hlocks hS dX8_letters_4 ⟨⟨hP, hD⟩, rfl⟩

end

/-! 34.a.rows -/
section
set_option maxRecDepth 100000 in
theorem dA90_cX1_told : kDec cX1_told [(0, .iload_n 1, 1), (1, .ifCond .lt 11, 3), (12, .iconst (-1), 1), (13, .ireturn, 1), (4, .iload_n 1, 1), (5, .aload_n 0, 1), (6, .getfield 65, 3), (9, .if_icmp .lt 5, 3), (14, .iload_n 2, 1), (15, .tableswitch 57 0 3 #[29, 36, 43, 50], 29), (44, .aload_n 0, 1), (45, .getfield 30, 3), (48, .iload_n 1, 1), (49, .iaload, 1), (50, .ireturn, 1), (51, .aload_n 0, 1), (52, .getfield 33, 3), (55, .iload_n 1, 1), (56, .iaload, 1), (57, .ireturn, 1), (58, .aload_n 0, 1), (59, .getfield 36, 3), (62, .iload_n 1, 1), (63, .iaload, 1)] = true := by decide +kernel
theorem dX1_told_0 : decode cX1_told 0 = .ok (.iload_n 1, 1) := kDec_at dA90_cX1_told 0 rfl
theorem dX1_told_1 : decode cX1_told 1 = .ok (.ifCond .lt 11, 3) := kDec_at dA90_cX1_told 1 rfl
theorem dX1_told_12 : decode cX1_told 12 = .ok (.iconst (-1), 1) := kDec_at dA90_cX1_told 2 rfl
theorem dX1_told_13 : decode cX1_told 13 = .ok (.ireturn, 1) := kDec_at dA90_cX1_told 3 rfl
theorem dX1_told_4 : decode cX1_told 4 = .ok (.iload_n 1, 1) := kDec_at dA90_cX1_told 4 rfl
theorem dX1_told_5 : decode cX1_told 5 = .ok (.aload_n 0, 1) := kDec_at dA90_cX1_told 5 rfl
theorem dX1_told_6 : decode cX1_told 6 = .ok (.getfield 65, 3) := kDec_at dA90_cX1_told 6 rfl
theorem dX1_told_9 : decode cX1_told 9 = .ok (.if_icmp .lt 5, 3) := kDec_at dA90_cX1_told 7 rfl
theorem dX1_told_14 : decode cX1_told 14 = .ok (.iload_n 2, 1) := kDec_at dA90_cX1_told 8 rfl
theorem dX1_told_15 : decode cX1_told 15 = .ok (.tableswitch 57 0 3 #[29, 36, 43, 50], 29) := kDec_at dA90_cX1_told 9 rfl
theorem dX1_told_44 : decode cX1_told 44 = .ok (.aload_n 0, 1) := kDec_at dA90_cX1_told 10 rfl
theorem dX1_told_45 : decode cX1_told 45 = .ok (.getfield 30, 3) := kDec_at dA90_cX1_told 11 rfl
theorem dX1_told_48 : decode cX1_told 48 = .ok (.iload_n 1, 1) := kDec_at dA90_cX1_told 12 rfl
theorem dX1_told_49 : decode cX1_told 49 = .ok (.iaload, 1) := kDec_at dA90_cX1_told 13 rfl
theorem dX1_told_50 : decode cX1_told 50 = .ok (.ireturn, 1) := kDec_at dA90_cX1_told 14 rfl
theorem dX1_told_51 : decode cX1_told 51 = .ok (.aload_n 0, 1) := kDec_at dA90_cX1_told 15 rfl
theorem dX1_told_52 : decode cX1_told 52 = .ok (.getfield 33, 3) := kDec_at dA90_cX1_told 16 rfl
theorem dX1_told_55 : decode cX1_told 55 = .ok (.iload_n 1, 1) := kDec_at dA90_cX1_told 17 rfl
theorem dX1_told_56 : decode cX1_told 56 = .ok (.iaload, 1) := kDec_at dA90_cX1_told 18 rfl
theorem dX1_told_57 : decode cX1_told 57 = .ok (.ireturn, 1) := kDec_at dA90_cX1_told 19 rfl
theorem dX1_told_58 : decode cX1_told 58 = .ok (.aload_n 0, 1) := kDec_at dA90_cX1_told 20 rfl
theorem dX1_told_59 : decode cX1_told 59 = .ok (.getfield 36, 3) := kDec_at dA90_cX1_told 21 rfl
theorem dX1_told_62 : decode cX1_told 62 = .ok (.iload_n 1, 1) := kDec_at dA90_cX1_told 22 rfl
theorem dX1_told_63 : decode cX1_told 63 = .ok (.iaload, 1) := kDec_at dA90_cX1_told 23 rfl
set_option maxRecDepth 100000 in
theorem dA91_cX1_told : kDec cX1_told [(64, .ireturn, 1), (65, .aload_n 0, 1), (66, .getfield 39, 3), (69, .iload_n 1, 1), (70, .iaload, 1), (71, .ireturn, 1), (72, .iconst (-1), 1), (73, .ireturn, 1)] = true := by decide +kernel
theorem dX1_told_64 : decode cX1_told 64 = .ok (.ireturn, 1) := kDec_at dA91_cX1_told 0 rfl
theorem dX1_told_65 : decode cX1_told 65 = .ok (.aload_n 0, 1) := kDec_at dA91_cX1_told 1 rfl
theorem dX1_told_66 : decode cX1_told 66 = .ok (.getfield 39, 3) := kDec_at dA91_cX1_told 2 rfl
theorem dX1_told_69 : decode cX1_told 69 = .ok (.iload_n 1, 1) := kDec_at dA91_cX1_told 3 rfl
theorem dX1_told_70 : decode cX1_told 70 = .ok (.iaload, 1) := kDec_at dA91_cX1_told 4 rfl
theorem dX1_told_71 : decode cX1_told 71 = .ok (.ireturn, 1) := kDec_at dA91_cX1_told 5 rfl
theorem dX1_told_72 : decode cX1_told 72 = .ok (.iconst (-1), 1) := kDec_at dA91_cX1_told 6 rfl
theorem dX1_told_73 : decode cX1_told 73 = .ok (.ireturn, 1) := kDec_at dA91_cX1_told 7 rfl

end

/-! 34.choices -/
section
set_option maxHeartbeats 40000000 in
set_option maxRecDepth 100000 in
theorem m_X1_told (l : Launch) (dC : Nat → ClassId) (dI : Nat → Nat → Nat) (cI cS : ClassId) (sz : Nat) (oW : Nat) (oC : Nat) (oK : Nat) (nw : Nat) (w1 : Nat) (w2 : Nat) (w3 : Nat) (o7 : Nat) (o8 : Nat) (o9 : Nat) (w4 : Nat) (w5 : Nat) (w6 : Nat) (w7 : Nat) (ke : Int32) (tl : Int32) (fsh : Int32) (wi : Int32) (ri : Int32) (fm : Int32) (lm : Int32) (fW4 : Nat → Int32) (fW5 : Nat → Int32) (fW6 : Nat → Int32) (fW7 : Nat → Int32) (i : Int32) (wh : Int32) (g_ke : 0 ≤ ke.toInt ∧ ke.toInt ≤ 200) (g_fsh : 0 ≤ fsh.toInt ∧ fsh.toInt ≤ 1) (g_fm : -1 ≤ fm.toInt ∧ fm.toInt ≤ 800) (g_lm : -1 ≤ lm.toInt ∧ lm.toInt ≤ 800) : kMi l yX1_told wsX1_told ({ frames := 0, cells := 0, slots := 0, locals := 0 } : Room) [.ref oW, .int i, .int wh] sz (dC, dI) vwCl [(cI, .int), (cS, .short)] [(oW, .inr (1, [.ref oC, .ref oK, .ref nw, .ref w1, .ref w2, .ref w3, .ref o7, .ref o8, .ref o9, .ref w4, .ref w5, .ref w6, .ref w7, .int ke, .int tl, .int fsh, .int wi, .int ri, .int fm, .int lm])), (w4, .inl (cI, 200, .inl fW4)), (w5, .inl (cI, 200, .inl fW5)), (w6, .inl (cI, 200, .inl fW6)), (w7, .inl (cI, 200, .inl fW7))] (fun _ => True) 0 0 (fun (A : Nat → Prop) (r : Int32) (hh9 : Heap) => kPD (dC, dI) vwCl A [(oW, .inr (1, [.ref oC, .ref oK, .ref nw, .ref w1, .ref w2, .ref w3, .ref o7, .ref o8, .ref o9, .ref w4, .ref w5, .ref w6, .ref w7, .int ke, .int tl, .int fsh, .int wi, .int ri, .int fm, .int lm])), (w4, .inl (cI, 200, .inl fW4)), (w5, .inl (cI, 200, .inl fW5)), (w6, .inl (cI, 200, .inl fW6)), (w7, .inl (cI, 200, .inl fW7))] hh9) := by
  refine kMi_of (cc := cX1_told) (maxL := 3) (ret := (some .int)) (lv := [(0, .ref oW), (1, .int i), (2, .int wh)]) (by decide +kernel) rfl rfl (Nat.le_of_ble_eq_true rfl) ?_
  intro p e s m below meth c A QQ ls hx hb hr hts hml hown hlocks hA hQQ hK hX hP hD hS hl
  have hown : s.vm.findClass RX1 = some m.cls := hown
  have hcf := k_cf hx hb hml hown hts
  have in_X1 : ∀ w ∈ wsX10, w ∈ wsX1_told := fun _ h => List.mem_cons_of_mem _ (List.mem_append_right _ (h))
  replace g_fsh := hid g_fsh
  replace g_fm := hid g_fm
  replace g_lm := hid g_lm
  refine lv_iload_n hx hb dX1_told_0 rfl (lv_at hl 1 rfl) ?_
  refine lv_if_lt (tgt := 12) hx hb dX1_told_1 (by decide) (fun c_1 => ?_) (fun c_1 => ?_)
  · have tc_1 : i.toInt < 0 := v_lt c_1
    refine lv_iconst (v := (-1)) hx hb dX1_told_12 (by decide) ?_
    exact kl_i (v := (-1)) hQQ hx hb hr hlocks hS dX1_told_13 ⟨hP, hD⟩
  · have tc_1 : 0 ≤ i.toInt := v_nlt c_1
    refine lv_iload_n hx hb dX1_told_4 rfl (lv_at hl 1 rfl) ?_
    refine lv_aload_n hx hb dX1_told_5 rfl (lv_at hl 0 rfl) ?_
    refine va_get (D := (dC, dI)) (ci := 1) (v := .int ke) (C := RX1) (T := TX1) (N := 20) hx hb hts in_X1 hown hK hP 0 rfl rfl 13 (by decide) (hts (.fieldLink RX1 65 "TextMender$Choices" "kept" "I") (List.mem_of_getElem? (i := 1) rfl)) (fun _ h9 => h9) rfl dX1_told_6 ?_
    refine lv_icmp_lt (tgt := 14) hx hb dX1_told_9 (by decide) (fun c_2 => ?_) (fun c_2 => ?_)
    · have tc_2 : i.toInt < ke.toInt := v_lt c_2
      have rw2_0 := v_rng i
      refine lv_iload_n hx hb dX1_told_14 rfl (lv_at hl 2 rfl) ?_
      by_cases c_3 : wh = 0
      · refine lv_tableIn (tgt := 44) hx hb dX1_told_15 (by rw [c_3]; decide) (by rw [c_3]; decide) (by rw [c_3]; rfl) (by decide) ?_
        have tc_3 : wh.toInt = 0 := v_eq c_3
        refine lv_aload_n hx hb dX1_told_44 rfl (lv_at hl 0 rfl) ?_
        refine va_get (D := (dC, dI)) (ci := 1) (v := .ref w4) (C := RX1) (T := TX1) (N := 20) hx hb hts in_X1 hown hK hP 0 rfl rfl 9 (by decide) (hts (.fieldLink RX1 30 "TextMender$Choices" "firstByte" "[I") (List.mem_of_getElem? (i := 2) rfl)) (fun _ h9 => h9) rfl dX1_told_45 ?_
        refine lv_iload_n hx hb dX1_told_48 rfl (lv_at hl 1 rfl) ?_
        refine va_iald hx hb hK hP 1 0 rfl rfl (v_in (by omega)) dX1_told_49 ?_
        refine lv_topi (fun x_4 ex_4 => ?_)
        exact kl_i (v := x_4) hQQ hx hb hr hlocks hS dX1_told_50 ⟨hP, hD⟩
      · skip
        have tc_3 : ¬ wh.toInt = 0 := v_ne c_3
        by_cases c_5 : wh = 1
        · refine lv_tableIn (tgt := 51) hx hb dX1_told_15 (by rw [c_5]; decide) (by rw [c_5]; decide) (by rw [c_5]; rfl) (by decide) ?_
          have tc_5 : wh.toInt = 1 := v_eq c_5
          refine lv_aload_n hx hb dX1_told_51 rfl (lv_at hl 0 rfl) ?_
          refine va_get (D := (dC, dI)) (ci := 1) (v := .ref w5) (C := RX1) (T := TX1) (N := 20) hx hb hts in_X1 hown hK hP 0 rfl rfl 10 (by decide) (hts (.fieldLink RX1 33 "TextMender$Choices" "secondByte" "[I") (List.mem_of_getElem? (i := 3) rfl)) (fun _ h9 => h9) rfl dX1_told_52 ?_
          refine lv_iload_n hx hb dX1_told_55 rfl (lv_at hl 1 rfl) ?_
          refine va_iald hx hb hK hP 2 0 rfl rfl (v_in (by omega)) dX1_told_56 ?_
          refine lv_topi (fun x_6 ex_6 => ?_)
          exact kl_i (v := x_6) hQQ hx hb hr hlocks hS dX1_told_57 ⟨hP, hD⟩
        · skip
          have tc_5 : ¬ wh.toInt = 1 := v_ne c_5
          by_cases c_7 : wh = 2
          · refine lv_tableIn (tgt := 58) hx hb dX1_told_15 (by rw [c_7]; decide) (by rw [c_7]; decide) (by rw [c_7]; rfl) (by decide) ?_
            have tc_7 : wh.toInt = 2 := v_eq c_7
            refine lv_aload_n hx hb dX1_told_58 rfl (lv_at hl 0 rfl) ?_
            refine va_get (D := (dC, dI)) (ci := 1) (v := .ref w6) (C := RX1) (T := TX1) (N := 20) hx hb hts in_X1 hown hK hP 0 rfl rfl 11 (by decide) (hts (.fieldLink RX1 36 "TextMender$Choices" "costOf" "[I") (List.mem_of_getElem? (i := 4) rfl)) (fun _ h9 => h9) rfl dX1_told_59 ?_
            refine lv_iload_n hx hb dX1_told_62 rfl (lv_at hl 1 rfl) ?_
            refine va_iald hx hb hK hP 3 0 rfl rfl (v_in (by omega)) dX1_told_63 ?_
            refine lv_topi (fun x_8 ex_8 => ?_)
            exact kl_i (v := x_8) hQQ hx hb hr hlocks hS dX1_told_64 ⟨hP, hD⟩
          · skip
            have tc_7 : ¬ wh.toInt = 2 := v_ne c_7
            by_cases c_9 : wh = 3
            · refine lv_tableIn (tgt := 65) hx hb dX1_told_15 (by rw [c_9]; decide) (by rw [c_9]; decide) (by rw [c_9]; rfl) (by decide) ?_
              have tc_9 : wh.toInt = 3 := v_eq c_9
              refine lv_aload_n hx hb dX1_told_65 rfl (lv_at hl 0 rfl) ?_
              refine va_get (D := (dC, dI)) (ci := 1) (v := .ref w7) (C := RX1) (T := TX1) (N := 20) hx hb hts in_X1 hown hK hP 0 rfl rfl 12 (by decide) (hts (.fieldLink RX1 39 "TextMender$Choices" "lengthOf" "[I") (List.mem_of_getElem? (i := 5) rfl)) (fun _ h9 => h9) rfl dX1_told_66 ?_
              refine lv_iload_n hx hb dX1_told_69 rfl (lv_at hl 1 rfl) ?_
              refine va_iald hx hb hK hP 4 0 rfl rfl (v_in (by omega)) dX1_told_70 ?_
              refine lv_topi (fun x_10 ex_10 => ?_)
              exact kl_i (v := x_10) hQQ hx hb hr hlocks hS dX1_told_71 ⟨hP, hD⟩
            · skip
              have tc_9 : ¬ wh.toInt = 3 := v_ne c_9
              refine lv_tableOut (tgt := 72) hx hb dX1_told_15 (by omega) (by decide) ?_
              refine lv_iconst (v := (-1)) hx hb dX1_told_72 (by decide) ?_
              exact kl_i (v := (-1)) hQQ hx hb hr hlocks hS dX1_told_73 ⟨hP, hD⟩
    · have tc_2 : ke.toInt ≤ i.toInt := v_nlt c_2
      have rw2_0 := v_rng i
      refine lv_iconst (v := (-1)) hx hb dX1_told_12 (by decide) ?_
      exact kl_i (v := (-1)) hQQ hx hb hr hlocks hS dX1_told_13 ⟨hP, hD⟩

end

/-! 36.a.rows -/
section
set_option maxRecDepth 100000 in
theorem dA92_cX11_end : kDec cX11_end [(0, .iload_n 1, 1), (1, .ifCond .lt 14, 3), (15, .iconst 0, 1), (16, .ireturn, 1), (4, .iload_n 1, 1), (5, .aload_n 0, 1), (6, .getfield 30, 3), (9, .invokevirtual 94, 3), (12, .if_icmp .le 5, 3), (17, .aload_n 0, 1), (18, .getfield 30, 3), (21, .iload_n 1, 1), (22, .invokevirtual 102, 3), (25, .iconst 1, 1), (26, .ireturn, 1)] = true := by decide +kernel
theorem dX11_end_0 : decode cX11_end 0 = .ok (.iload_n 1, 1) := kDec_at dA92_cX11_end 0 rfl
theorem dX11_end_1 : decode cX11_end 1 = .ok (.ifCond .lt 14, 3) := kDec_at dA92_cX11_end 1 rfl
theorem dX11_end_15 : decode cX11_end 15 = .ok (.iconst 0, 1) := kDec_at dA92_cX11_end 2 rfl
theorem dX11_end_16 : decode cX11_end 16 = .ok (.ireturn, 1) := kDec_at dA92_cX11_end 3 rfl
theorem dX11_end_4 : decode cX11_end 4 = .ok (.iload_n 1, 1) := kDec_at dA92_cX11_end 4 rfl
theorem dX11_end_5 : decode cX11_end 5 = .ok (.aload_n 0, 1) := kDec_at dA92_cX11_end 5 rfl
theorem dX11_end_6 : decode cX11_end 6 = .ok (.getfield 30, 3) := kDec_at dA92_cX11_end 6 rfl
theorem dX11_end_9 : decode cX11_end 9 = .ok (.invokevirtual 94, 3) := kDec_at dA92_cX11_end 7 rfl
theorem dX11_end_12 : decode cX11_end 12 = .ok (.if_icmp .le 5, 3) := kDec_at dA92_cX11_end 8 rfl
theorem dX11_end_17 : decode cX11_end 17 = .ok (.aload_n 0, 1) := kDec_at dA92_cX11_end 9 rfl
theorem dX11_end_18 : decode cX11_end 18 = .ok (.getfield 30, 3) := kDec_at dA92_cX11_end 10 rfl
theorem dX11_end_21 : decode cX11_end 21 = .ok (.iload_n 1, 1) := kDec_at dA92_cX11_end 11 rfl
theorem dX11_end_22 : decode cX11_end 22 = .ok (.invokevirtual 102, 3) := kDec_at dA92_cX11_end 12 rfl
theorem dX11_end_25 : decode cX11_end 25 = .ok (.iconst 1, 1) := kDec_at dA92_cX11_end 13 rfl
theorem dX11_end_26 : decode cX11_end 26 = .ok (.ireturn, 1) := kDec_at dA92_cX11_end 14 rfl
set_option maxRecDepth 20000 in
theorem ggX11_end_X5_length : GoodIn wsX11_end wsX5_length := goodIn_r _ [6, 7, 24, 25] rfl (by decide +kernel)
set_option maxRecDepth 20000 in
theorem gX11_end_X5_length : GoodIn wsX11_end (wsV RX11 94 RX5 yX5_length wsX5_length) := goodIn_app (goodIn_r _ [2, 3, 4, 5] rfl (by decide +kernel)) ggX11_end_X5_length
set_option maxRecDepth 20000 in
theorem ggX11_end_X5_cut : GoodIn wsX11_end wsX5_cut := goodIn_r _ [11, 7, 24, 25] rfl (by decide +kernel)
set_option maxRecDepth 20000 in
theorem gX11_end_X5_cut : GoodIn wsX11_end (wsV RX11 102 RX5 yX5_cut wsX5_cut) := goodIn_app (goodIn_r _ [8, 9, 10, 5] rfl (by decide +kernel)) ggX11_end_X5_cut
set_option maxRecDepth 100000 in
theorem dA93_cX11_span : kDec cX11_span [(0, .aload_n 0, 1), (1, .iconst (-1), 1), (2, .putfield 90, 3), (5, .aload_n 0, 1), (6, .getfield 40, 3), (9, .iload_n 1, 1), (10, .invokevirtual 129, 3), (13, .astore 6, 2), (15, .aload 6, 2), (17, .ifnull 17, 3), (34, .iconst (-1), 1), (35, .ireturn, 1)] = true := by decide +kernel
theorem dX11_span_0 : decode cX11_span 0 = .ok (.aload_n 0, 1) := kDec_at dA93_cX11_span 0 rfl
theorem dX11_span_1 : decode cX11_span 1 = .ok (.iconst (-1), 1) := kDec_at dA93_cX11_span 1 rfl
theorem dX11_span_2 : decode cX11_span 2 = .ok (.putfield 90, 3) := kDec_at dA93_cX11_span 2 rfl
theorem dX11_span_5 : decode cX11_span 5 = .ok (.aload_n 0, 1) := kDec_at dA93_cX11_span 3 rfl
theorem dX11_span_6 : decode cX11_span 6 = .ok (.getfield 40, 3) := kDec_at dA93_cX11_span 4 rfl
theorem dX11_span_9 : decode cX11_span 9 = .ok (.iload_n 1, 1) := kDec_at dA93_cX11_span 5 rfl
theorem dX11_span_10 : decode cX11_span 10 = .ok (.invokevirtual 129, 3) := kDec_at dA93_cX11_span 6 rfl
theorem dX11_span_13 : decode cX11_span 13 = .ok (.astore 6, 2) := kDec_at dA93_cX11_span 7 rfl
theorem dX11_span_15 : decode cX11_span 15 = .ok (.aload 6, 2) := kDec_at dA93_cX11_span 8 rfl
theorem dX11_span_17 : decode cX11_span 17 = .ok (.ifnull 17, 3) := kDec_at dA93_cX11_span 9 rfl
theorem dX11_span_34 : decode cX11_span 34 = .ok (.iconst (-1), 1) := kDec_at dA93_cX11_span 10 rfl
theorem dX11_span_35 : decode cX11_span 35 = .ok (.ireturn, 1) := kDec_at dA93_cX11_span 11 rfl
set_option maxRecDepth 20000 in
theorem ggX11_span_X2_toldCode : GoodIn wsX11_span wsX2_toldCode := goodIn_r _ [8, 9, 10, 65, 66] rfl (by decide +kernel)
set_option maxRecDepth 20000 in
theorem gX11_span_X2_toldCode : GoodIn wsX11_span (wsV RX11 129 RX2 yX2_toldCode wsX2_toldCode) := goodIn_app (goodIn_r _ [4, 5, 6, 7] rfl (by decide +kernel)) ggX11_span_X2_toldCode
set_option maxRecDepth 100000 in
theorem dA94_cX11_blank : kDec cX11_blank [(0, .aload_n 0, 1), (1, .getfield 40, 3), (4, .iload_n 1, 1), (5, .invokevirtual 129, 3), (8, .astore_n 2, 1), (9, .aload_n 2, 1), (10, .ifnonnull 5, 3), (13, .iconst 0, 1), (14, .ireturn, 1)] = true := by decide +kernel
theorem dX11_blank_0 : decode cX11_blank 0 = .ok (.aload_n 0, 1) := kDec_at dA94_cX11_blank 0 rfl
theorem dX11_blank_1 : decode cX11_blank 1 = .ok (.getfield 40, 3) := kDec_at dA94_cX11_blank 1 rfl
theorem dX11_blank_4 : decode cX11_blank 4 = .ok (.iload_n 1, 1) := kDec_at dA94_cX11_blank 2 rfl
theorem dX11_blank_5 : decode cX11_blank 5 = .ok (.invokevirtual 129, 3) := kDec_at dA94_cX11_blank 3 rfl
theorem dX11_blank_8 : decode cX11_blank 8 = .ok (.astore_n 2, 1) := kDec_at dA94_cX11_blank 4 rfl
theorem dX11_blank_9 : decode cX11_blank 9 = .ok (.aload_n 2, 1) := kDec_at dA94_cX11_blank 5 rfl
theorem dX11_blank_10 : decode cX11_blank 10 = .ok (.ifnonnull 5, 3) := kDec_at dA94_cX11_blank 6 rfl
theorem dX11_blank_13 : decode cX11_blank 13 = .ok (.iconst 0, 1) := kDec_at dA94_cX11_blank 7 rfl
theorem dX11_blank_14 : decode cX11_blank 14 = .ok (.ireturn, 1) := kDec_at dA94_cX11_blank 8 rfl
set_option maxRecDepth 20000 in
theorem ggX11_blank_X2_toldCode : GoodIn wsX11_blank wsX2_toldCode := goodIn_r _ [7, 8, 9, 40, 41] rfl (by decide +kernel)
set_option maxRecDepth 20000 in
theorem gX11_blank_X2_toldCode : GoodIn wsX11_blank (wsV RX11 129 RX2 yX2_toldCode wsX2_toldCode) := goodIn_app (goodIn_r _ [3, 4, 5, 6] rfl (by decide +kernel)) ggX11_blank_X2_toldCode
set_option maxRecDepth 100000 in
theorem dA95_cX11_marksOf : kDec cX11_marksOf [(0, .iconst 0, 1), (1, .istore_n 1, 1), (2, .iconst 0, 1), (3, .istore_n 2, 1), (4, .iload_n 2, 1), (5, .aload_n 0, 1), (6, .invokevirtual 94, 3), (9, .if_icmp .ge 23, 3), (32, .iload_n 1, 1), (33, .ireturn, 1), (12, .aload_n 0, 1), (13, .iload_n 2, 1), (14, .invokevirtual 167, 3), (17, .ldc_w 261, 3), (20, .if_icmp .ne 6, 3), (26, .iinc 2 1, 3), (29, .goto (-25), 3), (23, .iinc 1 1, 3)] = true := by decide +kernel
theorem dX11_marksOf_0 : decode cX11_marksOf 0 = .ok (.iconst 0, 1) := kDec_at dA95_cX11_marksOf 0 rfl
theorem dX11_marksOf_1 : decode cX11_marksOf 1 = .ok (.istore_n 1, 1) := kDec_at dA95_cX11_marksOf 1 rfl
theorem dX11_marksOf_2 : decode cX11_marksOf 2 = .ok (.iconst 0, 1) := kDec_at dA95_cX11_marksOf 2 rfl
theorem dX11_marksOf_3 : decode cX11_marksOf 3 = .ok (.istore_n 2, 1) := kDec_at dA95_cX11_marksOf 3 rfl
theorem dX11_marksOf_4 : decode cX11_marksOf 4 = .ok (.iload_n 2, 1) := kDec_at dA95_cX11_marksOf 4 rfl
theorem dX11_marksOf_5 : decode cX11_marksOf 5 = .ok (.aload_n 0, 1) := kDec_at dA95_cX11_marksOf 5 rfl
theorem dX11_marksOf_6 : decode cX11_marksOf 6 = .ok (.invokevirtual 94, 3) := kDec_at dA95_cX11_marksOf 6 rfl
theorem dX11_marksOf_9 : decode cX11_marksOf 9 = .ok (.if_icmp .ge 23, 3) := kDec_at dA95_cX11_marksOf 7 rfl
theorem dX11_marksOf_32 : decode cX11_marksOf 32 = .ok (.iload_n 1, 1) := kDec_at dA95_cX11_marksOf 8 rfl
theorem dX11_marksOf_33 : decode cX11_marksOf 33 = .ok (.ireturn, 1) := kDec_at dA95_cX11_marksOf 9 rfl
theorem dX11_marksOf_12 : decode cX11_marksOf 12 = .ok (.aload_n 0, 1) := kDec_at dA95_cX11_marksOf 10 rfl
theorem dX11_marksOf_13 : decode cX11_marksOf 13 = .ok (.iload_n 2, 1) := kDec_at dA95_cX11_marksOf 11 rfl
theorem dX11_marksOf_14 : decode cX11_marksOf 14 = .ok (.invokevirtual 167, 3) := kDec_at dA95_cX11_marksOf 12 rfl
theorem dX11_marksOf_17 : decode cX11_marksOf 17 = .ok (.ldc_w 261, 3) := kDec_at dA95_cX11_marksOf 13 rfl
theorem dX11_marksOf_20 : decode cX11_marksOf 20 = .ok (.if_icmp .ne 6, 3) := kDec_at dA95_cX11_marksOf 14 rfl
theorem dX11_marksOf_26 : decode cX11_marksOf 26 = .ok (.iinc 2 1, 3) := kDec_at dA95_cX11_marksOf 15 rfl
theorem dX11_marksOf_29 : decode cX11_marksOf 29 = .ok (.goto (-25), 3) := kDec_at dA95_cX11_marksOf 16 rfl
theorem dX11_marksOf_23 : decode cX11_marksOf 23 = .ok (.iinc 1 1, 3) := kDec_at dA95_cX11_marksOf 17 rfl
set_option maxRecDepth 20000 in
theorem ggX11_marksOf_X5_length : GoodIn wsX11_marksOf wsX5_length := goodIn_r _ [6, 7, 13, 14] rfl (by decide +kernel)
set_option maxRecDepth 20000 in
theorem gX11_marksOf_X5_length : GoodIn wsX11_marksOf (wsV RX11 94 RX5 yX5_length wsX5_length) := goodIn_app (goodIn_r _ [2, 3, 4, 5] rfl (by decide +kernel)) ggX11_marksOf_X5_length
set_option maxRecDepth 20000 in
theorem ggX11_marksOf_X5_get : GoodIn wsX11_marksOf wsX5_get := goodIn_r _ [11, 7, 12, 13, 14] rfl (by decide +kernel)
set_option maxRecDepth 20000 in
theorem gX11_marksOf_X5_get : GoodIn wsX11_marksOf (wsV RX11 167 RX5 yX5_get wsX5_get) := goodIn_app (goodIn_r _ [8, 9, 10, 5] rfl (by decide +kernel)) ggX11_marksOf_X5_get
set_option maxRecDepth 100000 in
theorem dA96_cX11_count : kDec cX11_count [(0, .iload_n 1, 1), (1, .tableswitch 113 0 7 #[47, 55, 63, 71, 79, 87, 95, 104], 47), (48, .aload_n 0, 1), (49, .getfield 34, 3), (52, .invokevirtual 94, 3), (55, .ireturn, 1), (56, .aload_n 0, 1), (57, .getfield 30, 3), (60, .invokevirtual 94, 3), (63, .ireturn, 1), (64, .aload_n 0, 1), (65, .getfield 48, 3), (68, .invokevirtual 150, 3), (71, .ireturn, 1), (72, .aload_n 0, 1), (73, .getfield 59, 3), (76, .invokevirtual 151, 3), (79, .ireturn, 1), (80, .aload_n 0, 1), (81, .getfield 34, 3), (84, .invokestatic 152, 3), (87, .ireturn, 1), (88, .aload_n 0, 1), (89, .getfield 52, 3)] = true := by decide +kernel
theorem dX11_count_0 : decode cX11_count 0 = .ok (.iload_n 1, 1) := kDec_at dA96_cX11_count 0 rfl
theorem dX11_count_1 : decode cX11_count 1 = .ok (.tableswitch 113 0 7 #[47, 55, 63, 71, 79, 87, 95, 104], 47) := kDec_at dA96_cX11_count 1 rfl
theorem dX11_count_48 : decode cX11_count 48 = .ok (.aload_n 0, 1) := kDec_at dA96_cX11_count 2 rfl
theorem dX11_count_49 : decode cX11_count 49 = .ok (.getfield 34, 3) := kDec_at dA96_cX11_count 3 rfl
theorem dX11_count_52 : decode cX11_count 52 = .ok (.invokevirtual 94, 3) := kDec_at dA96_cX11_count 4 rfl
theorem dX11_count_55 : decode cX11_count 55 = .ok (.ireturn, 1) := kDec_at dA96_cX11_count 5 rfl
theorem dX11_count_56 : decode cX11_count 56 = .ok (.aload_n 0, 1) := kDec_at dA96_cX11_count 6 rfl
theorem dX11_count_57 : decode cX11_count 57 = .ok (.getfield 30, 3) := kDec_at dA96_cX11_count 7 rfl
theorem dX11_count_60 : decode cX11_count 60 = .ok (.invokevirtual 94, 3) := kDec_at dA96_cX11_count 8 rfl
theorem dX11_count_63 : decode cX11_count 63 = .ok (.ireturn, 1) := kDec_at dA96_cX11_count 9 rfl
theorem dX11_count_64 : decode cX11_count 64 = .ok (.aload_n 0, 1) := kDec_at dA96_cX11_count 10 rfl
theorem dX11_count_65 : decode cX11_count 65 = .ok (.getfield 48, 3) := kDec_at dA96_cX11_count 11 rfl
theorem dX11_count_68 : decode cX11_count 68 = .ok (.invokevirtual 150, 3) := kDec_at dA96_cX11_count 12 rfl
theorem dX11_count_71 : decode cX11_count 71 = .ok (.ireturn, 1) := kDec_at dA96_cX11_count 13 rfl
theorem dX11_count_72 : decode cX11_count 72 = .ok (.aload_n 0, 1) := kDec_at dA96_cX11_count 14 rfl
theorem dX11_count_73 : decode cX11_count 73 = .ok (.getfield 59, 3) := kDec_at dA96_cX11_count 15 rfl
theorem dX11_count_76 : decode cX11_count 76 = .ok (.invokevirtual 151, 3) := kDec_at dA96_cX11_count 16 rfl
theorem dX11_count_79 : decode cX11_count 79 = .ok (.ireturn, 1) := kDec_at dA96_cX11_count 17 rfl
theorem dX11_count_80 : decode cX11_count 80 = .ok (.aload_n 0, 1) := kDec_at dA96_cX11_count 18 rfl
theorem dX11_count_81 : decode cX11_count 81 = .ok (.getfield 34, 3) := kDec_at dA96_cX11_count 19 rfl
theorem dX11_count_84 : decode cX11_count 84 = .ok (.invokestatic 152, 3) := kDec_at dA96_cX11_count 20 rfl
theorem dX11_count_87 : decode cX11_count 87 = .ok (.ireturn, 1) := kDec_at dA96_cX11_count 21 rfl
theorem dX11_count_88 : decode cX11_count 88 = .ok (.aload_n 0, 1) := kDec_at dA96_cX11_count 22 rfl
theorem dX11_count_89 : decode cX11_count 89 = .ok (.getfield 52, 3) := kDec_at dA96_cX11_count 23 rfl
set_option maxRecDepth 20000 in
theorem ggX11_count_X5_length : GoodIn wsX11_count wsX5_length := goodIn_r _ [11, 12, 70, 71] rfl (by decide +kernel)
set_option maxRecDepth 20000 in
theorem gX11_count_X5_length : GoodIn wsX11_count (wsV RX11 94 RX5 yX5_length wsX5_length) := goodIn_app (goodIn_r _ [7, 8, 9, 10] rfl (by decide +kernel)) ggX11_count_X5_length
set_option maxRecDepth 20000 in
theorem ggX11_count_X4_length : GoodIn wsX11_count wsX4_length := goodIn_r _ [17, 18, 72, 73, 74, 75] rfl (by decide +kernel)
set_option maxRecDepth 20000 in
theorem gX11_count_X4_length : GoodIn wsX11_count (wsV RX11 150 RX4 yX4_length wsX4_length) := goodIn_app (goodIn_r _ [13, 14, 15, 16] rfl (by decide +kernel)) ggX11_count_X4_length
set_option maxRecDepth 20000 in
theorem ggX11_count_X0_length : GoodIn wsX11_count wsX0_length := goodIn_r _ [23, 24, 76, 77, 78, 79] rfl (by decide +kernel)
set_option maxRecDepth 20000 in
theorem gX11_count_X0_length : GoodIn wsX11_count (wsV RX11 151 RX0 yX0_length wsX0_length) := goodIn_app (goodIn_r _ [19, 20, 21, 22] rfl (by decide +kernel)) ggX11_count_X0_length
set_option maxRecDepth 20000 in
theorem ggX11_count_X11_marksOf : GoodIn wsX11_count wsX11_marksOf := goodIn_r _ [28, 29, 7, 8, 9, 10, 11, 12, 30, 31, 32, 33, 34, 70, 71] rfl (by decide +kernel)
set_option maxRecDepth 20000 in
theorem gX11_count_X11_marksOf : GoodIn wsX11_count (va_wsS RX11 152 yX11_marksOf wsX11_marksOf) := goodIn_app (goodIn_r _ [25, 26, 27] rfl (by decide +kernel)) ggX11_count_X11_marksOf
set_option maxRecDepth 20000 in
theorem ggX11_count_X3_length : GoodIn wsX11_count wsX3_length := goodIn_r _ [39, 40, 80, 81, 82] rfl (by decide +kernel)
set_option maxRecDepth 20000 in
theorem gX11_count_X3_length : GoodIn wsX11_count (wsV RX11 155 RX3 yX3_length wsX3_length) := goodIn_app (goodIn_r _ [35, 36, 37, 38] rfl (by decide +kernel)) ggX11_count_X3_length
set_option maxRecDepth 100000 in
theorem dA97_cX11_count : kDec cX11_count [(92, .invokevirtual 155, 3), (95, .ireturn, 1), (96, .aload_n 0, 1), (97, .getfield 40, 3), (100, .iconst 4, 1), (101, .invokevirtual 156, 3), (104, .ireturn, 1), (105, .aload_n 0, 1), (106, .getfield 40, 3), (109, .iconst 5, 1), (110, .invokevirtual 156, 3), (113, .ireturn, 1), (114, .iconst (-1), 1), (115, .ireturn, 1)] = true := by decide +kernel
theorem dX11_count_92 : decode cX11_count 92 = .ok (.invokevirtual 155, 3) := kDec_at dA97_cX11_count 0 rfl
theorem dX11_count_95 : decode cX11_count 95 = .ok (.ireturn, 1) := kDec_at dA97_cX11_count 1 rfl
theorem dX11_count_96 : decode cX11_count 96 = .ok (.aload_n 0, 1) := kDec_at dA97_cX11_count 2 rfl
theorem dX11_count_97 : decode cX11_count 97 = .ok (.getfield 40, 3) := kDec_at dA97_cX11_count 3 rfl
theorem dX11_count_100 : decode cX11_count 100 = .ok (.iconst 4, 1) := kDec_at dA97_cX11_count 4 rfl
theorem dX11_count_101 : decode cX11_count 101 = .ok (.invokevirtual 156, 3) := kDec_at dA97_cX11_count 5 rfl
theorem dX11_count_104 : decode cX11_count 104 = .ok (.ireturn, 1) := kDec_at dA97_cX11_count 6 rfl
theorem dX11_count_105 : decode cX11_count 105 = .ok (.aload_n 0, 1) := kDec_at dA97_cX11_count 7 rfl
theorem dX11_count_106 : decode cX11_count 106 = .ok (.getfield 40, 3) := kDec_at dA97_cX11_count 8 rfl
theorem dX11_count_109 : decode cX11_count 109 = .ok (.iconst 5, 1) := kDec_at dA97_cX11_count 9 rfl
theorem dX11_count_110 : decode cX11_count 110 = .ok (.invokevirtual 156, 3) := kDec_at dA97_cX11_count 10 rfl
theorem dX11_count_113 : decode cX11_count 113 = .ok (.ireturn, 1) := kDec_at dA97_cX11_count 11 rfl
theorem dX11_count_114 : decode cX11_count 114 = .ok (.iconst (-1), 1) := kDec_at dA97_cX11_count 12 rfl
theorem dX11_count_115 : decode cX11_count 115 = .ok (.ireturn, 1) := kDec_at dA97_cX11_count 13 rfl
set_option maxRecDepth 20000 in
theorem ggX11_count_X2_lengthOf : GoodIn wsX11_count wsX2_lengthOf := goodIn_r _ [45, 46, 47, 48, 44, 49, 50, 51, 52, 53, 54, 55, 56, 57, 83, 84, 85, 86, 87, 88] rfl (by decide +kernel)
set_option maxRecDepth 20000 in
theorem gX11_count_X2_lengthOf : GoodIn wsX11_count (wsV RX11 156 RX2 yX2_lengthOf wsX2_lengthOf) := goodIn_app (goodIn_r _ [41, 42, 43, 44] rfl (by decide +kernel)) ggX11_count_X2_lengthOf
set_option maxRecDepth 100000 in
theorem dA98_cX11_writes : kDec cX11_writes [(0, .aload_n 0, 1), (1, .iconst (-1), 1), (2, .putfield 90, 3), (5, .iload_n 1, 1), (6, .invokestatic 117, 3), (9, .ifCond .ne 5, 3), (14, .aload_n 0, 1), (15, .getfield 44, 3), (18, .iload_n 1, 1), (19, .aload_n 0, 1), (20, .getfield 34, 3), (23, .invokevirtual 249, 3), (26, .istore_n 2, 1), (27, .aload_n 0, 1), (28, .aload_n 0, 1), (29, .getfield 44, 3), (32, .invokevirtual 127, 3), (35, .putfield 90, 3), (38, .iload_n 2, 1), (39, .ireturn, 1), (12, .iconst 0, 1), (13, .ireturn, 1)] = true := by decide +kernel
theorem dX11_writes_0 : decode cX11_writes 0 = .ok (.aload_n 0, 1) := kDec_at dA98_cX11_writes 0 rfl
theorem dX11_writes_1 : decode cX11_writes 1 = .ok (.iconst (-1), 1) := kDec_at dA98_cX11_writes 1 rfl
theorem dX11_writes_2 : decode cX11_writes 2 = .ok (.putfield 90, 3) := kDec_at dA98_cX11_writes 2 rfl
theorem dX11_writes_5 : decode cX11_writes 5 = .ok (.iload_n 1, 1) := kDec_at dA98_cX11_writes 3 rfl
theorem dX11_writes_6 : decode cX11_writes 6 = .ok (.invokestatic 117, 3) := kDec_at dA98_cX11_writes 4 rfl
theorem dX11_writes_9 : decode cX11_writes 9 = .ok (.ifCond .ne 5, 3) := kDec_at dA98_cX11_writes 5 rfl
theorem dX11_writes_14 : decode cX11_writes 14 = .ok (.aload_n 0, 1) := kDec_at dA98_cX11_writes 6 rfl
theorem dX11_writes_15 : decode cX11_writes 15 = .ok (.getfield 44, 3) := kDec_at dA98_cX11_writes 7 rfl
theorem dX11_writes_18 : decode cX11_writes 18 = .ok (.iload_n 1, 1) := kDec_at dA98_cX11_writes 8 rfl
theorem dX11_writes_19 : decode cX11_writes 19 = .ok (.aload_n 0, 1) := kDec_at dA98_cX11_writes 9 rfl
theorem dX11_writes_20 : decode cX11_writes 20 = .ok (.getfield 34, 3) := kDec_at dA98_cX11_writes 10 rfl
theorem dX11_writes_23 : decode cX11_writes 23 = .ok (.invokevirtual 249, 3) := kDec_at dA98_cX11_writes 11 rfl
theorem dX11_writes_26 : decode cX11_writes 26 = .ok (.istore_n 2, 1) := kDec_at dA98_cX11_writes 12 rfl
theorem dX11_writes_27 : decode cX11_writes 27 = .ok (.aload_n 0, 1) := kDec_at dA98_cX11_writes 13 rfl
theorem dX11_writes_28 : decode cX11_writes 28 = .ok (.aload_n 0, 1) := kDec_at dA98_cX11_writes 14 rfl
theorem dX11_writes_29 : decode cX11_writes 29 = .ok (.getfield 44, 3) := kDec_at dA98_cX11_writes 15 rfl
theorem dX11_writes_32 : decode cX11_writes 32 = .ok (.invokevirtual 127, 3) := kDec_at dA98_cX11_writes 16 rfl
theorem dX11_writes_35 : decode cX11_writes 35 = .ok (.putfield 90, 3) := kDec_at dA98_cX11_writes 17 rfl
theorem dX11_writes_38 : decode cX11_writes 38 = .ok (.iload_n 2, 1) := kDec_at dA98_cX11_writes 18 rfl
theorem dX11_writes_39 : decode cX11_writes 39 = .ok (.ireturn, 1) := kDec_at dA98_cX11_writes 19 rfl
theorem dX11_writes_12 : decode cX11_writes 12 = .ok (.iconst 0, 1) := kDec_at dA98_cX11_writes 20 rfl
theorem dX11_writes_13 : decode cX11_writes 13 = .ok (.ireturn, 1) := kDec_at dA98_cX11_writes 21 rfl
set_option maxRecDepth 20000 in
theorem ggX11_writes_X2_known : GoodIn wsX11_writes wsX2_known := goodIn_r _ [7] rfl (by decide +kernel)
set_option maxRecDepth 20000 in
theorem gX11_writes_X2_known : GoodIn wsX11_writes (va_wsS RX11 117 yX2_known wsX2_known) := goodIn_app (goodIn_r _ [4, 5, 6] rfl (by decide +kernel)) ggX11_writes_X2_known
set_option maxRecDepth 20000 in
theorem ggX11_writes_X7_write : GoodIn wsX11_writes wsX7_write := goodIn_r _ [12, 13, 14, 15, 16, 17, 18, 19, 20, 21, 22, 23, 24, 25, 26, 27, 28, 29, 30, 31, 32, 33, 6, 34, 35, 36, 37, 38, 39, 40, 41, 42, 43, 44, 45, 46, 47, 48, 49, 50, 51, 52, 53, 54, 55, 56, 57, 58, 59, 60, 61, 62, 63, 64, 65, 82, 83, 84, 85, 86, 87, 88, 89, 90, 91, 92] rfl (by decide +kernel)
set_option maxRecDepth 20000 in
theorem gX11_writes_X7_write : GoodIn wsX11_writes (wsV RX11 249 RX7 yX7_write wsX7_write) := goodIn_app (goodIn_r _ [8, 9, 10, 11] rfl (by decide +kernel)) ggX11_writes_X7_write
set_option maxRecDepth 20000 in
theorem ggX11_writes_X7_fault : GoodIn wsX11_writes wsX7_fault := goodIn_r _ [69, 13, 82, 83, 84] rfl (by decide +kernel)
set_option maxRecDepth 20000 in
theorem gX11_writes_X7_fault : GoodIn wsX11_writes (wsV RX11 127 RX7 yX7_fault wsX7_fault) := goodIn_app (goodIn_r _ [66, 67, 68, 11] rfl (by decide +kernel)) ggX11_writes_X7_fault
set_option maxRecDepth 100000 in
theorem dA99_cX11_size : kDec cX11_size [(0, .aload_n 0, 1), (1, .iload_n 1, 1), (2, .invokevirtual 170, 3), (5, .ifCond .eq 16, 3), (21, .iconst (-1), 1), (22, .ireturn, 1), (8, .aload_n 0, 1), (9, .getfield 44, 3), (12, .invokevirtual 173, 3), (15, .invokevirtual 94, 3), (18, .goto 4, 3)] = true := by decide +kernel
theorem dX11_size_0 : decode cX11_size 0 = .ok (.aload_n 0, 1) := kDec_at dA99_cX11_size 0 rfl
theorem dX11_size_1 : decode cX11_size 1 = .ok (.iload_n 1, 1) := kDec_at dA99_cX11_size 1 rfl
theorem dX11_size_2 : decode cX11_size 2 = .ok (.invokevirtual 170, 3) := kDec_at dA99_cX11_size 2 rfl
theorem dX11_size_5 : decode cX11_size 5 = .ok (.ifCond .eq 16, 3) := kDec_at dA99_cX11_size 3 rfl
theorem dX11_size_21 : decode cX11_size 21 = .ok (.iconst (-1), 1) := kDec_at dA99_cX11_size 4 rfl
theorem dX11_size_22 : decode cX11_size 22 = .ok (.ireturn, 1) := kDec_at dA99_cX11_size 5 rfl
theorem dX11_size_8 : decode cX11_size 8 = .ok (.aload_n 0, 1) := kDec_at dA99_cX11_size 6 rfl
theorem dX11_size_9 : decode cX11_size 9 = .ok (.getfield 44, 3) := kDec_at dA99_cX11_size 7 rfl
theorem dX11_size_12 : decode cX11_size 12 = .ok (.invokevirtual 173, 3) := kDec_at dA99_cX11_size 8 rfl
theorem dX11_size_15 : decode cX11_size 15 = .ok (.invokevirtual 94, 3) := kDec_at dA99_cX11_size 9 rfl
theorem dX11_size_18 : decode cX11_size 18 = .ok (.goto 4, 3) := kDec_at dA99_cX11_size 10 rfl
set_option maxRecDepth 20000 in
theorem ggX11_size_X11_writes : GoodIn wsX11_size wsX11_writes := goodIn_r _ [6, 7, 1, 8, 9, 10, 11, 12, 13, 14, 15, 16, 17, 18, 19, 20, 21, 22, 23, 24, 25, 26, 27, 28, 29, 30, 31, 32, 33, 34, 35, 36, 37, 38, 39, 40, 41, 42, 43, 44, 45, 46, 47, 48, 49, 50, 51, 52, 53, 54, 55, 56, 57, 58, 59, 60, 61, 62, 63, 64, 65, 66, 67, 68, 69, 70, 71, 72, 73, 74, 80, 81, 82, 83, 84, 85, 86, 87, 88, 89, 90, 91, 92, 93, 94, 95, 96, 97, 98, 99, 100, 101, 102] rfl (by decide +kernel)
set_option maxRecDepth 20000 in
theorem gX11_size_X11_writes : GoodIn wsX11_size (wsV RX11 170 RX11 yX11_writes wsX11_writes) := goodIn_app (goodIn_r _ [2, 3, 4, 5] rfl (by decide +kernel)) ggX11_size_X11_writes
set_option maxRecDepth 20000 in
theorem ggX11_size_X7_bytes : GoodIn wsX11_size wsX7_bytes := goodIn_r _ [78, 19, 92, 93, 94] rfl (by decide +kernel)
set_option maxRecDepth 20000 in
theorem gX11_size_X7_bytes : GoodIn wsX11_size (wsV RX11 173 RX7 yX7_bytes wsX7_bytes) := goodIn_app (goodIn_r _ [75, 76, 77, 16] rfl (by decide +kernel)) ggX11_size_X7_bytes
set_option maxRecDepth 20000 in
theorem ggX11_size_X5_length : GoodIn wsX11_size wsX5_length := goodIn_r _ [30, 26, 95, 96] rfl (by decide +kernel)
set_option maxRecDepth 20000 in
theorem gX11_size_X5_length : GoodIn wsX11_size (wsV RX11 94 RX5 yX5_length wsX5_length) := goodIn_app (goodIn_r _ [79, 28, 29, 24] rfl (by decide +kernel)) ggX11_size_X5_length
set_option maxRecDepth 100000 in
theorem dA100_cX11_byteOf : kDec cX11_byteOf [(0, .aload_n 0, 1), (1, .iload_n 1, 1), (2, .invokevirtual 170, 3), (5, .ifCond .eq 17, 3), (22, .iconst (-1), 1), (23, .ireturn, 1), (8, .aload_n 0, 1), (9, .getfield 44, 3), (12, .invokevirtual 173, 3), (15, .iload_n 2, 1), (16, .invokevirtual 167, 3), (19, .goto 4, 3)] = true := by decide +kernel
theorem dX11_byteOf_0 : decode cX11_byteOf 0 = .ok (.aload_n 0, 1) := kDec_at dA100_cX11_byteOf 0 rfl
theorem dX11_byteOf_1 : decode cX11_byteOf 1 = .ok (.iload_n 1, 1) := kDec_at dA100_cX11_byteOf 1 rfl
theorem dX11_byteOf_2 : decode cX11_byteOf 2 = .ok (.invokevirtual 170, 3) := kDec_at dA100_cX11_byteOf 2 rfl
theorem dX11_byteOf_5 : decode cX11_byteOf 5 = .ok (.ifCond .eq 17, 3) := kDec_at dA100_cX11_byteOf 3 rfl
theorem dX11_byteOf_22 : decode cX11_byteOf 22 = .ok (.iconst (-1), 1) := kDec_at dA100_cX11_byteOf 4 rfl
theorem dX11_byteOf_23 : decode cX11_byteOf 23 = .ok (.ireturn, 1) := kDec_at dA100_cX11_byteOf 5 rfl
theorem dX11_byteOf_8 : decode cX11_byteOf 8 = .ok (.aload_n 0, 1) := kDec_at dA100_cX11_byteOf 6 rfl
theorem dX11_byteOf_9 : decode cX11_byteOf 9 = .ok (.getfield 44, 3) := kDec_at dA100_cX11_byteOf 7 rfl
theorem dX11_byteOf_12 : decode cX11_byteOf 12 = .ok (.invokevirtual 173, 3) := kDec_at dA100_cX11_byteOf 8 rfl
theorem dX11_byteOf_15 : decode cX11_byteOf 15 = .ok (.iload_n 2, 1) := kDec_at dA100_cX11_byteOf 9 rfl
theorem dX11_byteOf_16 : decode cX11_byteOf 16 = .ok (.invokevirtual 167, 3) := kDec_at dA100_cX11_byteOf 10 rfl
theorem dX11_byteOf_19 : decode cX11_byteOf 19 = .ok (.goto 4, 3) := kDec_at dA100_cX11_byteOf 11 rfl
set_option maxRecDepth 20000 in
theorem ggX11_byteOf_X11_writes : GoodIn wsX11_byteOf wsX11_writes := goodIn_r _ [6, 7, 1, 8, 9, 10, 11, 12, 13, 14, 15, 16, 17, 18, 19, 20, 21, 22, 23, 24, 25, 26, 27, 28, 29, 30, 31, 32, 33, 34, 35, 36, 37, 38, 39, 40, 41, 42, 43, 44, 45, 46, 47, 48, 49, 50, 51, 52, 53, 54, 55, 56, 57, 58, 59, 60, 61, 62, 63, 64, 65, 66, 67, 68, 69, 70, 71, 72, 73, 74, 80, 81, 82, 83, 84, 85, 86, 87, 88, 89, 90, 91, 92, 93, 94, 95, 96, 97, 98, 99, 100, 101, 102] rfl (by decide +kernel)
set_option maxRecDepth 20000 in
theorem gX11_byteOf_X11_writes : GoodIn wsX11_byteOf (wsV RX11 170 RX11 yX11_writes wsX11_writes) := goodIn_app (goodIn_r _ [2, 3, 4, 5] rfl (by decide +kernel)) ggX11_byteOf_X11_writes
set_option maxRecDepth 20000 in
theorem ggX11_byteOf_X7_bytes : GoodIn wsX11_byteOf wsX7_bytes := goodIn_r _ [78, 19, 92, 93, 94] rfl (by decide +kernel)
set_option maxRecDepth 20000 in
theorem gX11_byteOf_X7_bytes : GoodIn wsX11_byteOf (wsV RX11 173 RX7 yX7_bytes wsX7_bytes) := goodIn_app (goodIn_r _ [75, 76, 77, 16] rfl (by decide +kernel)) ggX11_byteOf_X7_bytes
set_option maxRecDepth 20000 in
theorem ggX11_byteOf_X5_get : GoodIn wsX11_byteOf wsX5_get := goodIn_r _ [34, 26, 35, 95, 96] rfl (by decide +kernel)
set_option maxRecDepth 20000 in
theorem gX11_byteOf_X5_get : GoodIn wsX11_byteOf (wsV RX11 167 RX5 yX5_get wsX5_get) := goodIn_app (goodIn_r _ [79, 32, 33, 24] rfl (by decide +kernel)) ggX11_byteOf_X5_get
set_option maxRecDepth 100000 in
theorem dA101_cX11_where : kDec cX11_where [(0, .aload_n 0, 1), (1, .getfield 90, 3), (4, .ireturn, 1)] = true := by decide +kernel
theorem dX11_where_0 : decode cX11_where 0 = .ok (.aload_n 0, 1) := kDec_at dA101_cX11_where 0 rfl
theorem dX11_where_1 : decode cX11_where 1 = .ok (.getfield 90, 3) := kDec_at dA101_cX11_where 1 rfl
theorem dX11_where_4 : decode cX11_where 4 = .ok (.ireturn, 1) := kDec_at dA101_cX11_where 2 rfl
set_option maxRecDepth 100000 in
theorem dA102_cX11_safe : kDec cX11_safe [(0, .aload_n 0, 1), (1, .iconst (-1), 1), (2, .putfield 90, 3), (5, .iload_n 1, 1), (6, .invokestatic 117, 3), (9, .ifCond .eq 10, 3), (19, .iconst (-1), 1), (20, .ireturn, 1), (12, .iload_n 2, 1), (13, .invokestatic 117, 3), (16, .ifCond .ne 5, 3), (21, .aload_n 0, 1), (22, .getfield 40, 3), (25, .iload_n 1, 1), (26, .iload_n 2, 1), (27, .invokevirtual 185, 3), (30, .ifCond .eq 7, 3), (37, .iconst 0, 1), (38, .ireturn, 1), (33, .iconst 1, 1), (34, .goto 4, 3)] = true := by decide +kernel
theorem dX11_safe_0 : decode cX11_safe 0 = .ok (.aload_n 0, 1) := kDec_at dA102_cX11_safe 0 rfl
theorem dX11_safe_1 : decode cX11_safe 1 = .ok (.iconst (-1), 1) := kDec_at dA102_cX11_safe 1 rfl
theorem dX11_safe_2 : decode cX11_safe 2 = .ok (.putfield 90, 3) := kDec_at dA102_cX11_safe 2 rfl
theorem dX11_safe_5 : decode cX11_safe 5 = .ok (.iload_n 1, 1) := kDec_at dA102_cX11_safe 3 rfl
theorem dX11_safe_6 : decode cX11_safe 6 = .ok (.invokestatic 117, 3) := kDec_at dA102_cX11_safe 4 rfl
theorem dX11_safe_9 : decode cX11_safe 9 = .ok (.ifCond .eq 10, 3) := kDec_at dA102_cX11_safe 5 rfl
theorem dX11_safe_19 : decode cX11_safe 19 = .ok (.iconst (-1), 1) := kDec_at dA102_cX11_safe 6 rfl
theorem dX11_safe_20 : decode cX11_safe 20 = .ok (.ireturn, 1) := kDec_at dA102_cX11_safe 7 rfl
theorem dX11_safe_12 : decode cX11_safe 12 = .ok (.iload_n 2, 1) := kDec_at dA102_cX11_safe 8 rfl
theorem dX11_safe_13 : decode cX11_safe 13 = .ok (.invokestatic 117, 3) := kDec_at dA102_cX11_safe 9 rfl
theorem dX11_safe_16 : decode cX11_safe 16 = .ok (.ifCond .ne 5, 3) := kDec_at dA102_cX11_safe 10 rfl
theorem dX11_safe_21 : decode cX11_safe 21 = .ok (.aload_n 0, 1) := kDec_at dA102_cX11_safe 11 rfl
theorem dX11_safe_22 : decode cX11_safe 22 = .ok (.getfield 40, 3) := kDec_at dA102_cX11_safe 12 rfl
theorem dX11_safe_25 : decode cX11_safe 25 = .ok (.iload_n 1, 1) := kDec_at dA102_cX11_safe 13 rfl
theorem dX11_safe_26 : decode cX11_safe 26 = .ok (.iload_n 2, 1) := kDec_at dA102_cX11_safe 14 rfl
theorem dX11_safe_27 : decode cX11_safe 27 = .ok (.invokevirtual 185, 3) := kDec_at dA102_cX11_safe 15 rfl
theorem dX11_safe_30 : decode cX11_safe 30 = .ok (.ifCond .eq 7, 3) := kDec_at dA102_cX11_safe 16 rfl
theorem dX11_safe_37 : decode cX11_safe 37 = .ok (.iconst 0, 1) := kDec_at dA102_cX11_safe 17 rfl
theorem dX11_safe_38 : decode cX11_safe 38 = .ok (.ireturn, 1) := kDec_at dA102_cX11_safe 18 rfl
theorem dX11_safe_33 : decode cX11_safe 33 = .ok (.iconst 1, 1) := kDec_at dA102_cX11_safe 19 rfl
theorem dX11_safe_34 : decode cX11_safe 34 = .ok (.goto 4, 3) := kDec_at dA102_cX11_safe 20 rfl
set_option maxRecDepth 20000 in
theorem ggX11_safe_X2_known : GoodIn wsX11_safe wsX2_known := goodIn_r _ [6] rfl (by decide +kernel)
set_option maxRecDepth 20000 in
theorem gX11_safe_X2_known : GoodIn wsX11_safe (va_wsS RX11 117 yX2_known wsX2_known) := goodIn_app (goodIn_r _ [3, 4, 5] rfl (by decide +kernel)) ggX11_safe_X2_known
set_option maxRecDepth 20000 in
theorem ggX11_safe_X2_neverLost : GoodIn wsX11_safe wsX2_neverLost := goodIn_r _ [10, 11, 12, 13, 5, 14, 15, 16, 17, 18, 19, 20, 21, 22, 23, 24, 25, 26, 27, 28, 29, 30, 43, 44, 45, 46, 47, 48] rfl (by decide +kernel)
set_option maxRecDepth 20000 in
theorem gX11_safe_X2_neverLost : GoodIn wsX11_safe (wsV RX11 185 RX2 yX2_neverLost wsX2_neverLost) := goodIn_app (goodIn_r _ [7, 8, 9, 5] rfl (by decide +kernel)) ggX11_safe_X2_neverLost
set_option maxRecDepth 100000 in
theorem dA103_cX11_rows : kDec cX11_rows [(0, .aload_n 0, 1), (1, .iconst (-1), 1), (2, .putfield 90, 3), (5, .iload_n 1, 1), (6, .iconst 1, 1), (7, .if_icmp .lt 8, 3), (15, .iconst (-1), 1), (16, .ireturn, 1), (10, .iload_n 1, 1), (11, .iconst 3, 1), (12, .if_icmp .le 5, 3), (17, .aload_n 0, 1), (18, .getfield 68, 3), (21, .iload_n 1, 1), (22, .aload_n 0, 1), (23, .getfield 34, 3), (26, .invokevirtual 194, 3), (29, .aload_n 0, 1), (30, .getfield 68, 3), (33, .invokevirtual 198, 3), (36, .ireturn, 1)] = true := by decide +kernel
theorem dX11_rows_0 : decode cX11_rows 0 = .ok (.aload_n 0, 1) := kDec_at dA103_cX11_rows 0 rfl
theorem dX11_rows_1 : decode cX11_rows 1 = .ok (.iconst (-1), 1) := kDec_at dA103_cX11_rows 1 rfl
theorem dX11_rows_2 : decode cX11_rows 2 = .ok (.putfield 90, 3) := kDec_at dA103_cX11_rows 2 rfl
theorem dX11_rows_5 : decode cX11_rows 5 = .ok (.iload_n 1, 1) := kDec_at dA103_cX11_rows 3 rfl
theorem dX11_rows_6 : decode cX11_rows 6 = .ok (.iconst 1, 1) := kDec_at dA103_cX11_rows 4 rfl
theorem dX11_rows_7 : decode cX11_rows 7 = .ok (.if_icmp .lt 8, 3) := kDec_at dA103_cX11_rows 5 rfl
theorem dX11_rows_15 : decode cX11_rows 15 = .ok (.iconst (-1), 1) := kDec_at dA103_cX11_rows 6 rfl
theorem dX11_rows_16 : decode cX11_rows 16 = .ok (.ireturn, 1) := kDec_at dA103_cX11_rows 7 rfl
theorem dX11_rows_10 : decode cX11_rows 10 = .ok (.iload_n 1, 1) := kDec_at dA103_cX11_rows 8 rfl
theorem dX11_rows_11 : decode cX11_rows 11 = .ok (.iconst 3, 1) := kDec_at dA103_cX11_rows 9 rfl
theorem dX11_rows_12 : decode cX11_rows 12 = .ok (.if_icmp .le 5, 3) := kDec_at dA103_cX11_rows 10 rfl
theorem dX11_rows_17 : decode cX11_rows 17 = .ok (.aload_n 0, 1) := kDec_at dA103_cX11_rows 11 rfl
theorem dX11_rows_18 : decode cX11_rows 18 = .ok (.getfield 68, 3) := kDec_at dA103_cX11_rows 12 rfl
theorem dX11_rows_21 : decode cX11_rows 21 = .ok (.iload_n 1, 1) := kDec_at dA103_cX11_rows 13 rfl
theorem dX11_rows_22 : decode cX11_rows 22 = .ok (.aload_n 0, 1) := kDec_at dA103_cX11_rows 14 rfl
theorem dX11_rows_23 : decode cX11_rows 23 = .ok (.getfield 34, 3) := kDec_at dA103_cX11_rows 15 rfl
theorem dX11_rows_26 : decode cX11_rows 26 = .ok (.invokevirtual 194, 3) := kDec_at dA103_cX11_rows 16 rfl
theorem dX11_rows_29 : decode cX11_rows 29 = .ok (.aload_n 0, 1) := kDec_at dA103_cX11_rows 17 rfl
theorem dX11_rows_30 : decode cX11_rows 30 = .ok (.getfield 68, 3) := kDec_at dA103_cX11_rows 18 rfl
theorem dX11_rows_33 : decode cX11_rows 33 = .ok (.invokevirtual 198, 3) := kDec_at dA103_cX11_rows 19 rfl
theorem dX11_rows_36 : decode cX11_rows 36 = .ok (.ireturn, 1) := kDec_at dA103_cX11_rows 20 rfl
set_option maxRecDepth 20000 in
theorem ggX11_rows_X9_find : GoodIn wsX11_rows wsX9_find := goodIn_r _ [8, 9, 10, 11, 12, 13, 14, 15, 16, 17, 18, 19, 20, 21, 22, 23, 24, 25, 26, 27, 28, 29, 30, 31, 32, 33, 34, 35, 36, 37, 38, 39, 40, 41, 42, 43, 44, 45, 46, 47, 48, 49, 50, 51, 52, 53, 54, 55, 56, 57, 58, 59, 60, 61, 62, 63, 64, 65, 66, 67, 68, 69, 70, 71, 72, 73, 74, 75, 76, 77, 78, 79, 80, 81, 82, 83, 84, 85, 86, 87, 88, 89, 90, 91, 92, 93, 94, 95, 96, 97, 98, 99, 100, 101, 102, 103, 104, 105, 106, 107, 108, 109, 110, 111, 112, 113, 114, 115, 116, 117, 118, 119, 120, 121, 122, 123, 124, 125, 126, 127, 128, 129, 130, 131, 132, 133, 134, 135, 136, 137, 138, 139, 140, 7, 141, 142, 143, 144, 145, 146, 147, 148, 149, 150, 151, 152, 153, 154, 155, 156, 157, 158, 159, 160, 161, 162, 163, 164, 165, 166, 167, 168, 169, 170, 171, 172, 173, 174, 175, 176, 177, 198, 199, 200, 201, 202, 203, 204, 205, 206, 207, 208, 209, 210, 211, 212, 213, 214, 215, 216, 217, 218, 219, 220, 221, 222, 223, 224, 225, 226, 227] rfl (by decide +kernel)
set_option maxRecDepth 20000 in
theorem gX11_rows_X9_find : GoodIn wsX11_rows (wsV RX11 194 RX9 yX9_find wsX9_find) := goodIn_app (goodIn_r _ [4, 5, 6, 7] rfl (by decide +kernel)) ggX11_rows_X9_find
set_option maxRecDepth 20000 in
theorem ggX11_rows_X9_keepFound : GoodIn wsX11_rows wsX9_keepFound := goodIn_r _ [181, 182, 9, 183, 184, 143, 185, 177, 198, 199, 200, 201, 202, 203, 204, 205, 206, 207, 208, 209] rfl (by decide +kernel)
set_option maxRecDepth 20000 in
theorem gX11_rows_X9_keepFound : GoodIn wsX11_rows (wsV RX11 198 RX9 yX9_keepFound wsX9_keepFound) := goodIn_app (goodIn_r _ [178, 179, 180, 7] rfl (by decide +kernel)) ggX11_rows_X9_keepFound
set_option maxRecDepth 100000 in
theorem dA104_cX11_row : kDec cX11_row [(0, .aload_n 0, 1), (1, .getfield 68, 3), (4, .iload_n 1, 1), (5, .iload_n 2, 1), (6, .invokevirtual 201, 3), (9, .ireturn, 1)] = true := by decide +kernel
theorem dX11_row_0 : decode cX11_row 0 = .ok (.aload_n 0, 1) := kDec_at dA104_cX11_row 0 rfl
theorem dX11_row_1 : decode cX11_row 1 = .ok (.getfield 68, 3) := kDec_at dA104_cX11_row 1 rfl
theorem dX11_row_4 : decode cX11_row 4 = .ok (.iload_n 1, 1) := kDec_at dA104_cX11_row 2 rfl
theorem dX11_row_5 : decode cX11_row 5 = .ok (.iload_n 2, 1) := kDec_at dA104_cX11_row 3 rfl
theorem dX11_row_6 : decode cX11_row 6 = .ok (.invokevirtual 201, 3) := kDec_at dA104_cX11_row 4 rfl
theorem dX11_row_9 : decode cX11_row 9 = .ok (.ireturn, 1) := kDec_at dA104_cX11_row 5 rfl
set_option maxRecDepth 20000 in
theorem ggX11_row_X9_told : GoodIn wsX11_row wsX9_told := goodIn_r _ [6, 7, 8, 9, 10, 23, 24, 25, 26, 27, 28, 29, 30, 31, 32, 33, 34] rfl (by decide +kernel)
set_option maxRecDepth 20000 in
theorem gX11_row_X9_told : GoodIn wsX11_row (wsV RX11 201 RX9 yX9_told wsX9_told) := goodIn_app (goodIn_r _ [2, 3, 4, 5] rfl (by decide +kernel)) ggX11_row_X9_told
set_option maxRecDepth 100000 in
theorem dA105_cX11_worth : kDec cX11_worth [(0, .aload_n 0, 1), (1, .getfield 52, 3), (4, .aload_n 0, 1), (5, .getfield 34, 3), (8, .invokevirtual 211, 3), (11, .ireturn, 1)] = true := by decide +kernel
theorem dX11_worth_0 : decode cX11_worth 0 = .ok (.aload_n 0, 1) := kDec_at dA105_cX11_worth 0 rfl
theorem dX11_worth_1 : decode cX11_worth 1 = .ok (.getfield 52, 3) := kDec_at dA105_cX11_worth 1 rfl
theorem dX11_worth_4 : decode cX11_worth 4 = .ok (.aload_n 0, 1) := kDec_at dA105_cX11_worth 2 rfl
theorem dX11_worth_5 : decode cX11_worth 5 = .ok (.getfield 34, 3) := kDec_at dA105_cX11_worth 3 rfl
theorem dX11_worth_8 : decode cX11_worth 8 = .ok (.invokevirtual 211, 3) := kDec_at dA105_cX11_worth 4 rfl
theorem dX11_worth_11 : decode cX11_worth 11 = .ok (.ireturn, 1) := kDec_at dA105_cX11_worth 5 rfl
set_option maxRecDepth 20000 in
theorem ggX11_worth_X3_ofText : GoodIn wsX11_worth wsX3_ofText := goodIn_r _ [7, 8, 9, 10, 11, 12, 13, 14, 15, 16, 17, 18, 19, 20, 21, 6, 22, 23, 24, 25, 26, 27, 28, 29, 30, 31, 32, 33, 34, 35, 36, 37, 38, 39, 52, 53, 54, 55, 56] rfl (by decide +kernel)
set_option maxRecDepth 20000 in
theorem gX11_worth_X3_ofText : GoodIn wsX11_worth (wsV RX11 211 RX3 yX3_ofText wsX3_ofText) := goodIn_app (goodIn_r _ [3, 4, 5, 6] rfl (by decide +kernel)) ggX11_worth_X3_ofText
set_option maxRecDepth 100000 in
theorem dA106_cX11_choice : kDec cX11_choice [(0, .aload_n 0, 1), (1, .getfield 86, 3), (4, .iload_n 1, 1), (5, .iload_n 2, 1), (6, .invokevirtual 242, 3), (9, .ireturn, 1)] = true := by decide +kernel
theorem dX11_choice_0 : decode cX11_choice 0 = .ok (.aload_n 0, 1) := kDec_at dA106_cX11_choice 0 rfl
theorem dX11_choice_1 : decode cX11_choice 1 = .ok (.getfield 86, 3) := kDec_at dA106_cX11_choice 1 rfl
theorem dX11_choice_4 : decode cX11_choice 4 = .ok (.iload_n 1, 1) := kDec_at dA106_cX11_choice 2 rfl
theorem dX11_choice_5 : decode cX11_choice 5 = .ok (.iload_n 2, 1) := kDec_at dA106_cX11_choice 3 rfl
theorem dX11_choice_6 : decode cX11_choice 6 = .ok (.invokevirtual 242, 3) := kDec_at dA106_cX11_choice 4 rfl
theorem dX11_choice_9 : decode cX11_choice 9 = .ok (.ireturn, 1) := kDec_at dA106_cX11_choice 5 rfl
set_option maxRecDepth 20000 in
theorem ggX11_choice_X1_told : GoodIn wsX11_choice wsX1_told := goodIn_r _ [6, 7, 8, 9, 10, 11, 24, 25, 26, 27, 28, 29, 30, 31, 32, 33, 34, 35, 36, 37, 38, 39, 40, 41, 42, 43] rfl (by decide +kernel)
set_option maxRecDepth 20000 in
theorem gX11_choice_X1_told : GoodIn wsX11_choice (wsV RX11 242 RX1 yX1_told wsX1_told) := goodIn_app (goodIn_r _ [2, 3, 4, 5] rfl (by decide +kernel)) ggX11_choice_X1_told

end
