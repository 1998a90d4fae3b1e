theorem dX11_text_0 : decode cX11_text 0 = .ok (.aload_n 0, 1) := by decide +kernel
theorem dX11_text_1 : decode cX11_text 1 = .ok (.iconst (-1), 1) := by decide +kernel
theorem dX11_text_2 : decode cX11_text 2 = .ok (.putfield 90, 3) := by decide +kernel
theorem dX11_text_5 : decode cX11_text 5 = .ok (.aload_n 0, 1) := by decide +kernel
theorem dX11_text_6 : decode cX11_text 6 = .ok (.getfield 30, 3) := by decide +kernel
set_option maxRecDepth 20000 in
theorem ggX11_text_X5_length : GoodIn wsX11_text wsX5_length := goodIn_r _ [8, 9, 82, 83] rfl (by decide +kernel)
set_option maxRecDepth 20000 in
theorem gX11_text_X5_length : GoodIn wsX11_text (wsV RX11 94 RX5 yX5_length wsX5_length) := goodIn_app (goodIn_r _ [4, 5, 6, 7] rfl (by decide +kernel)) ggX11_text_X5_length
theorem dX11_text_9 : decode cX11_text 9 = .ok (.invokevirtual 94, 3) := by decide +kernel
theorem dX11_text_12 : decode cX11_text 12 = .ok (.sipush 300, 3) := by decide +kernel
theorem dX11_text_15 : decode cX11_text 15 = .ok (.if_icmp .gt 14, 3) := by decide +kernel
theorem dX11_text_29 : decode cX11_text 29 = .ok (.iconst 0, 1) := by decide +kernel
theorem dX11_text_30 : decode cX11_text 30 = .ok (.istore_n 1, 1) := by decide +kernel
theorem dX11_text_31 : decode cX11_text 31 = .ok (.iload_n 1, 1) := by decide +kernel
theorem dX11_text_32 : decode cX11_text 32 = .ok (.ifCond .eq 15, 3) := by decide +kernel
theorem dX11_text_47 : decode cX11_text 47 = .ok (.aload_n 0, 1) := by decide +kernel
theorem dX11_text_48 : decode cX11_text 48 = .ok (.getfield 30, 3) := by decide +kernel
theorem dX11_text_51 : decode cX11_text 51 = .ok (.iconst 0, 1) := by decide +kernel
set_option maxRecDepth 20000 in
theorem ggX11_text_X5_cut : GoodIn wsX11_text wsX5_cut := goodIn_r _ [41, 9, 82, 83] rfl (by decide +kernel)
set_option maxRecDepth 20000 in
theorem gX11_text_X5_cut : GoodIn wsX11_text (wsV RX11 102 RX5 yX5_cut wsX5_cut) := goodIn_app (goodIn_r _ [38, 39, 40, 7] rfl (by decide +kernel)) ggX11_text_X5_cut
theorem dX11_text_52 : decode cX11_text 52 = .ok (.invokevirtual 102, 3) := by decide +kernel
theorem dX11_text_55 : decode cX11_text 55 = .ok (.iload_n 1, 1) := by decide +kernel
theorem dX11_text_56 : decode cX11_text 56 = .ok (.ifCond .eq 14, 3) := by decide +kernel
theorem dX11_text_70 : decode cX11_text 70 = .ok (.iconst (-1), 1) := by decide +kernel
theorem dX11_text_71 : decode cX11_text 71 = .ok (.ireturn, 1) := by decide +kernel
theorem dX11_text_18 : decode cX11_text 18 = .ok (.aload_n 0, 1) := by decide +kernel
set_option maxRecDepth 20000 in
theorem ggX11_text_X11_tapeHoldsLetters : GoodIn wsX11_text wsX11_tapeHoldsLetters := goodIn_r _ [14, 2, 1, 4, 5, 6, 7, 8, 9, 15, 16, 17, 18, 19, 20, 21, 13, 22, 23, 24, 25, 70, 71, 72, 73, 74, 75, 76, 77, 78, 79, 80, 81, 82, 83] rfl (by decide +kernel)
set_option maxRecDepth 20000 in
theorem gX11_text_X11_tapeHoldsLetters : GoodIn wsX11_text (wsV RX11 105 RX11 yX11_tapeHoldsLetters wsX11_tapeHoldsLetters) := goodIn_app (goodIn_r _ [10, 11, 12, 13] rfl (by decide +kernel)) ggX11_text_X11_tapeHoldsLetters
theorem dX11_text_19 : decode cX11_text 19 = .ok (.invokevirtual 105, 3) := by decide +kernel
theorem dX11_text_22 : decode cX11_text 22 = .ok (.ifCond .eq 7, 3) := by decide +kernel
theorem dX11_text_25 : decode cX11_text 25 = .ok (.iconst 1, 1) := by decide +kernel
theorem dX11_text_26 : decode cX11_text 26 = .ok (.goto 4, 3) := by decide +kernel
theorem dX11_text_35 : decode cX11_text 35 = .ok (.aload_n 0, 1) := by decide +kernel
theorem dX11_text_36 : decode cX11_text 36 = .ok (.getfield 37, 3) := by decide +kernel
theorem dX11_text_39 : decode cX11_text 39 = .ok (.aload_n 0, 1) := by decide +kernel
theorem dX11_text_40 : decode cX11_text 40 = .ok (.getfield 30, 3) := by decide +kernel
set_option maxRecDepth 20000 in
theorem ggX11_text_X5_takeAll : GoodIn wsX11_text wsX5_takeAll := goodIn_r _ [29, 9, 30, 31, 32, 7, 33, 19, 34, 35, 36, 37, 82, 83] rfl (by decide +kernel)
set_option maxRecDepth 20000 in
theorem gX11_text_X5_takeAll : GoodIn wsX11_text (wsV RX11 109 RX5 yX5_takeAll wsX5_takeAll) := goodIn_app (goodIn_r _ [26, 27, 28, 7] rfl (by decide +kernel)) ggX11_text_X5_takeAll
theorem dX11_text_43 : decode cX11_text 43 = .ok (.invokevirtual 109, 3) := by decide +kernel
theorem dX11_text_46 : decode cX11_text 46 = .ok (.pop, 1) := by decide +kernel
theorem dX11_text_59 : decode cX11_text 59 = .ok (.aload_n 0, 1) := by decide +kernel
theorem dX11_text_60 : decode cX11_text 60 = .ok (.aload_n 0, 1) := by decide +kernel
theorem dX11_text_61 : decode cX11_text 61 = .ok (.getfield 37, 3) := by decide +kernel
set_option maxRecDepth 20000 in
theorem ggX11_text_X11_become : GoodIn wsX11_text wsX11_become := goodIn_r _ [45, 46, 47, 48, 49, 50, 51, 52, 53, 54, 55, 56, 57, 58, 59, 60, 61, 62, 5, 6, 7, 8, 9, 63, 16, 17, 18, 19, 26, 27, 28, 29, 30, 31, 32, 33, 34, 35, 36, 37, 64, 65, 66, 67, 68, 69, 4, 70, 71, 72, 73, 74, 75, 76, 77, 78, 79, 80, 81, 84, 85, 86, 87, 82, 83, 88, 89, 90, 91, 92, 93, 94, 95, 96, 97, 98, 99, 100, 101, 102, 103, 104, 105, 106, 107] rfl (by decide +kernel)
set_option maxRecDepth 20000 in
theorem gX11_text_X11_become : GoodIn wsX11_text (wsV RX11 113 RX11 yX11_become wsX11_become) := goodIn_app (goodIn_r _ [42, 43, 44, 13] rfl (by decide +kernel)) ggX11_text_X11_become
theorem dX11_text_64 : decode cX11_text 64 = .ok (.invokevirtual 113, 3) := by decide +kernel
theorem dX11_text_67 : decode cX11_text 67 = .ok (.goto 4, 3) := by decide +kernel
theorem dX12_text_0 : decode cX12_text 0 = .ok (.aload_n 0, 1) := by decide +kernel
theorem dX12_text_1 : decode cX12_text 1 = .ok (.iconst 0, 1) := by decide +kernel
theorem dX12_text_2 : decode cX12_text 2 = .ok (.putfield 85, 3) := by decide +kernel
theorem dX12_text_5 : decode cX12_text 5 = .ok (.aload_n 0, 1) := by decide +kernel
theorem dX12_text_6 : decode cX12_text 6 = .ok (.iconst (-1), 1) := by decide +kernel
theorem dX12_text_7 : decode cX12_text 7 = .ok (.putfield 55, 3) := by decide +kernel
theorem dX12_text_10 : decode cX12_text 10 = .ok (.aload_n 0, 1) := by decide +kernel
theorem dX12_text_11 : decode cX12_text 11 = .ok (.getfield 151, 3) := by decide +kernel
theorem dX12_text_14 : decode cX12_text 14 = .ok (.istore_n 1, 1) := by decide +kernel
theorem dX12_text_15 : decode cX12_text 15 = .ok (.aload_n 0, 1) := by decide +kernel
theorem dX12_text_16 : decode cX12_text 16 = .ok (.iconst 0, 1) := by decide +kernel
theorem dX12_text_17 : decode cX12_text 17 = .ok (.putfield 151, 3) := by decide +kernel
theorem dX12_text_20 : decode cX12_text 20 = .ok (.iload_n 1, 1) := by decide +kernel
theorem dX12_text_21 : decode cX12_text 21 = .ok (.sipush 300, 3) := by decide +kernel
theorem dX12_text_24 : decode cX12_text 24 = .ok (.if_icmp .le 5, 3) := by decide +kernel
theorem dX12_text_29 : decode cX12_text 29 = .ok (.iconst 0, 1) := by decide +kernel
theorem dX12_text_30 : decode cX12_text 30 = .ok (.istore_n 2, 1) := by decide +kernel
theorem dX12_text_31 : decode cX12_text 31 = .ok (.iload_n 2, 1) := by decide +kernel
theorem dX12_text_32 : decode cX12_text 32 = .ok (.iload_n 1, 1) := by decide +kernel
theorem dX12_text_33 : decode cX12_text 33 = .ok (.if_icmp .ge 28, 3) := by decide +kernel
theorem dX12_text_61 : decode cX12_text 61 = .ok (.aload_n 0, 1) := by decide +kernel
theorem dX12_text_62 : decode cX12_text 62 = .ok (.aload_n 0, 1) := by decide +kernel
theorem dX12_text_63 : decode cX12_text 63 = .ok (.getfield 9, 3) := by decide +kernel
theorem dX12_text_66 : decode cX12_text 66 = .ok (.iload_n 1, 1) := by decide +kernel
set_option maxRecDepth 20000 in
theorem ggX12_text_X12_become : GoodIn wsX12_text wsX12_become := goodIn_r _ [15, 16, 17, 18, 19, 20, 21, 22, 23, 24, 25, 26, 27, 28, 29, 30, 31, 32, 33, 34, 35, 36, 37, 38, 39, 40, 41, 42, 43, 44, 45, 46, 47, 48, 49, 50, 51, 52, 53, 54, 55, 56, 57, 58, 59, 60] rfl (by decide +kernel)
set_option maxRecDepth 20000 in
theorem gX12_text_X12_become : GoodIn wsX12_text (wsV RX12 154 RX12 yX12_become wsX12_become) := goodIn_app (goodIn_r _ [12, 13, 14, 7] rfl (by decide +kernel)) ggX12_text_X12_become
theorem dX12_text_67 : decode cX12_text 67 = .ok (.invokevirtual 154, 3) := by decide +kernel
theorem dX12_text_70 : decode cX12_text 70 = .ok (.iload_n 1, 1) := by decide +kernel
theorem dX12_text_71 : decode cX12_text 71 = .ok (.ireturn, 1) := by decide +kernel
theorem dX12_text_36 : decode cX12_text 36 = .ok (.aload_n 0, 1) := by decide +kernel
theorem dX12_text_37 : decode cX12_text 37 = .ok (.getfield 9, 3) := by decide +kernel
theorem dX12_text_40 : decode cX12_text 40 = .ok (.iload_n 2, 1) := by decide +kernel
theorem dX12_text_41 : decode cX12_text 41 = .ok (.iaload, 1) := by decide +kernel
set_option maxRecDepth 20000 in
theorem ggX12_text_X12_isLetter : GoodIn wsX12_text wsX12_isLetter := goodIn_r _ [8, 9, 10, 11] rfl (by decide +kernel)
set_option maxRecDepth 20000 in
theorem gX12_text_X12_isLetter : GoodIn wsX12_text (va_wsS RX12 116 yX12_isLetter wsX12_isLetter) := goodIn_app (goodIn_r _ [5, 6, 7] rfl (by decide +kernel)) ggX12_text_X12_isLetter
theorem dX12_text_42 : decode cX12_text 42 = .ok (.invokestatic 116, 3) := by decide +kernel
theorem dX12_text_45 : decode cX12_text 45 = .ok (.ifCond .ne 10, 3) := by decide +kernel
theorem dX12_text_55 : decode cX12_text 55 = .ok (.iinc 2 1, 3) := by decide +kernel
theorem dX12_text_58 : decode cX12_text 58 = .ok (.goto (-27), 3) := by decide +kernel
theorem dX12_text_48 : decode cX12_text 48 = .ok (.aload_n 0, 1) := by decide +kernel
theorem dX12_text_49 : decode cX12_text 49 = .ok (.iload_n 2, 1) := by decide +kernel
theorem dX12_text_50 : decode cX12_text 50 = .ok (.putfield 55, 3) := by decide +kernel
theorem dX12_text_53 : decode cX12_text 53 = .ok (.iconst (-1), 1) := by decide +kernel
theorem dX12_text_54 : decode cX12_text 54 = .ok (.ireturn, 1) := by decide +kernel
theorem dX12_text_27 : decode cX12_text 27 = .ok (.iconst (-1), 1) := by decide +kernel
theorem dX12_text_28 : decode cX12_text 28 = .ok (.ireturn, 1) := by decide +kernel
theorem dX11_read_0 : decode cX11_read 0 = .ok (.aload_n 0, 1) := by decide +kernel
theorem dX11_read_1 : decode cX11_read 1 = .ok (.iconst (-1), 1) := by decide +kernel
theorem dX11_read_2 : decode cX11_read 2 = .ok (.putfield 90, 3) := by decide +kernel
theorem dX11_read_5 : decode cX11_read 5 = .ok (.iload_n 1, 1) := by decide +kernel
set_option maxRecDepth 20000 in
theorem ggX11_read_X2_known : GoodIn wsX11_read wsX2_known := goodIn_r _ [8] rfl (by decide +kernel)
set_option maxRecDepth 20000 in
theorem gX11_read_X2_known : GoodIn wsX11_read (va_wsS RX11 117 yX2_known wsX2_known) := goodIn_app (goodIn_r _ [5, 6, 7] rfl (by decide +kernel)) ggX11_read_X2_known
theorem dX11_read_6 : decode cX11_read 6 = .ok (.invokestatic 117, 3) := by decide +kernel
theorem dX11_read_9 : decode cX11_read 9 = .ok (.ifCond .eq 14, 3) := by decide +kernel
theorem dX11_read_23 : decode cX11_read 23 = .ok (.iconst 0, 1) := by decide +kernel
theorem dX11_read_24 : decode cX11_read 24 = .ok (.istore_n 2, 1) := by decide +kernel
theorem dX11_read_25 : decode cX11_read 25 = .ok (.iload_n 2, 1) := by decide +kernel
theorem dX11_read_26 : decode cX11_read 26 = .ok (.ifCond .eq 31, 3) := by decide +kernel
theorem dX11_read_57 : decode cX11_read 57 = .ok (.aload_n 0, 1) := by decide +kernel
theorem dX11_read_58 : decode cX11_read 58 = .ok (.getfield 30, 3) := by decide +kernel
theorem dX11_read_61 : decode cX11_read 61 = .ok (.iconst 0, 1) := by decide +kernel
set_option maxRecDepth 20000 in
theorem ggX11_read_X5_cut : GoodIn wsX11_read wsX5_cut := goodIn_r _ [39, 19, 145, 146] rfl (by decide +kernel)
set_option maxRecDepth 20000 in
theorem gX11_read_X5_cut : GoodIn wsX11_read (wsV RX11 102 RX5 yX5_cut wsX5_cut) := goodIn_app (goodIn_r _ [93, 37, 38, 17] rfl (by decide +kernel)) ggX11_read_X5_cut
theorem dX11_read_62 : decode cX11_read 62 = .ok (.invokevirtual 102, 3) := by decide +kernel
theorem dX11_read_65 : decode cX11_read 65 = .ok (.iload_n 2, 1) := by decide +kernel
theorem dX11_read_66 : decode cX11_read 66 = .ok (.ifCond .eq 14, 3) := by decide +kernel
theorem dX11_read_80 : decode cX11_read 80 = .ok (.iconst (-1), 1) := by decide +kernel
theorem dX11_read_81 : decode cX11_read 81 = .ok (.ireturn, 1) := by decide +kernel
theorem dX11_read_12 : decode cX11_read 12 = .ok (.aload_n 0, 1) := by decide +kernel
set_option maxRecDepth 20000 in
theorem ggX11_read_X11_tapeHoldsBytes : GoodIn wsX11_read wsX11_tapeHoldsBytes := goodIn_r _ [13, 3, 1, 14, 15, 16, 17, 18, 19, 20, 21, 22, 23, 24, 133, 134, 135, 136, 137, 138, 139, 140, 141, 142, 143, 144, 145, 146] rfl (by decide +kernel)
set_option maxRecDepth 20000 in
theorem gX11_read_X11_tapeHoldsBytes : GoodIn wsX11_read (wsV RX11 120 RX11 yX11_tapeHoldsBytes wsX11_tapeHoldsBytes) := goodIn_app (goodIn_r _ [9, 10, 11, 12] rfl (by decide +kernel)) ggX11_read_X11_tapeHoldsBytes
theorem dX11_read_13 : decode cX11_read 13 = .ok (.invokevirtual 120, 3) := by decide +kernel
theorem dX11_read_16 : decode cX11_read 16 = .ok (.ifCond .eq 7, 3) := by decide +kernel
theorem dX11_read_19 : decode cX11_read 19 = .ok (.iconst 1, 1) := by decide +kernel
theorem dX11_read_20 : decode cX11_read 20 = .ok (.goto 4, 3) := by decide +kernel
theorem dX11_read_29 : decode cX11_read 29 = .ok (.aload_n 0, 1) := by decide +kernel
theorem dX11_read_30 : decode cX11_read 30 = .ok (.getfield 44, 3) := by decide +kernel
theorem dX11_read_33 : decode cX11_read 33 = .ok (.iload_n 1, 1) := by decide +kernel
theorem dX11_read_34 : decode cX11_read 34 = .ok (.aload_n 0, 1) := by decide +kernel
theorem dX11_read_35 : decode cX11_read 35 = .ok (.getfield 30, 3) := by decide +kernel
theorem dX11_read_38 : decode cX11_read 38 = .ok (.aload_n 0, 1) := by decide +kernel
theorem dX11_read_39 : decode cX11_read 39 = .ok (.getfield 37, 3) := by decide +kernel
set_option maxRecDepth 20000 in
theorem ggX11_read_X7_readExactly : GoodIn wsX11_read wsX7_readExactly := goodIn_r _ [29, 30, 31, 32, 33, 34, 35, 36, 37, 38, 17, 39, 19, 40, 15, 16, 18, 41, 42, 43, 7, 44, 45, 21, 22, 23, 24, 46, 47, 48, 49, 50, 51, 52, 53, 54, 55, 56, 57, 58, 59, 60, 61, 62, 63, 64, 65, 66, 67, 68, 12, 69, 70, 71, 72, 73, 74, 75, 76, 77, 78, 79, 80, 81, 82, 83, 84, 85, 86, 87, 88, 147, 148, 149, 145, 146, 150, 151, 152, 153, 154, 155] rfl (by decide +kernel)
set_option maxRecDepth 20000 in
theorem gX11_read_X7_readExactly : GoodIn wsX11_read (wsV RX11 123 RX7 yX7_readExactly wsX7_readExactly) := goodIn_app (goodIn_r _ [25, 26, 27, 28] rfl (by decide +kernel)) ggX11_read_X7_readExactly
theorem dX11_read_42 : decode cX11_read 42 = .ok (.invokevirtual 123, 3) := by decide +kernel
theorem dX11_read_45 : decode cX11_read 45 = .ok (.istore_n 2, 1) := by decide +kernel
theorem dX11_read_46 : decode cX11_read 46 = .ok (.aload_n 0, 1) := by decide +kernel
theorem dX11_read_47 : decode cX11_read 47 = .ok (.aload_n 0, 1) := by decide +kernel
theorem dX11_read_48 : decode cX11_read 48 = .ok (.getfield 44, 3) := by decide +kernel
set_option maxRecDepth 20000 in
theorem ggX11_read_X7_fault : GoodIn wsX11_read wsX7_fault := goodIn_r _ [92, 30, 147, 148, 149] rfl (by decide +kernel)
set_option maxRecDepth 20000 in
theorem gX11_read_X7_fault : GoodIn wsX11_read (wsV RX11 127 RX7 yX7_fault wsX7_fault) := goodIn_app (goodIn_r _ [89, 90, 91, 28] rfl (by decide +kernel)) ggX11_read_X7_fault
theorem dX11_read_51 : decode cX11_read 51 = .ok (.invokevirtual 127, 3) := by decide +kernel
theorem dX11_read_54 : decode cX11_read 54 = .ok (.putfield 90, 3) := by decide +kernel
theorem dX11_read_69 : decode cX11_read 69 = .ok (.aload_n 0, 1) := by decide +kernel
theorem dX11_read_70 : decode cX11_read 70 = .ok (.aload_n 0, 1) := by decide +kernel
theorem dX11_read_71 : decode cX11_read 71 = .ok (.getfield 37, 3) := by decide +kernel
set_option maxRecDepth 20000 in
theorem ggX11_read_X11_become : GoodIn wsX11_read wsX11_become := goodIn_r _ [97, 98, 99, 100, 101, 102, 103, 104, 105, 106, 107, 34, 108, 109, 110, 111, 112, 113, 15, 16, 17, 18, 19, 114, 21, 22, 23, 24, 115, 116, 117, 118, 119, 120, 121, 122, 123, 124, 125, 126, 127, 128, 129, 130, 131, 132, 14, 133, 134, 135, 136, 137, 138, 139, 140, 141, 142, 143, 144, 156, 157, 158, 159, 145, 146, 160, 161, 162, 163, 164, 165, 166, 167, 168, 169, 170, 171, 172, 173, 174, 175, 176, 177, 178, 179] rfl (by decide +kernel)
set_option maxRecDepth 20000 in
theorem gX11_read_X11_become : GoodIn wsX11_read (wsV RX11 113 RX11 yX11_become wsX11_become) := goodIn_app (goodIn_r _ [94, 95, 96, 12] rfl (by decide +kernel)) ggX11_read_X11_become
theorem dX11_read_74 : decode cX11_read 74 = .ok (.invokevirtual 113, 3) := by decide +kernel
theorem dX11_read_77 : decode cX11_read 77 = .ok (.goto 4, 3) := by decide +kernel
theorem dX12_read__0 : decode cX12_read_ 0 = .ok (.aload_n 0, 1) := by decide +kernel
theorem dX12_read__1 : decode cX12_read_ 1 = .ok (.iconst 0, 1) := by decide +kernel
theorem dX12_read__2 : decode cX12_read_ 2 = .ok (.putfield 85, 3) := by decide +kernel
theorem dX12_read__5 : decode cX12_read_ 5 = .ok (.aload_n 0, 1) := by decide +kernel
theorem dX12_read__6 : decode cX12_read_ 6 = .ok (.iconst (-1), 1) := by decide +kernel
theorem dX12_read__7 : decode cX12_read_ 7 = .ok (.putfield 55, 3) := by decide +kernel
theorem dX12_read__10 : decode cX12_read_ 10 = .ok (.aload_n 0, 1) := by decide +kernel
theorem dX12_read__11 : decode cX12_read_ 11 = .ok (.getfield 151, 3) := by decide +kernel
theorem dX12_read__14 : decode cX12_read_ 14 = .ok (.istore_n 2, 1) := by decide +kernel
theorem dX12_read__15 : decode cX12_read_ 15 = .ok (.aload_n 0, 1) := by decide +kernel
theorem dX12_read__16 : decode cX12_read_ 16 = .ok (.iconst 0, 1) := by decide +kernel
theorem dX12_read__17 : decode cX12_read_ 17 = .ok (.putfield 151, 3) := by decide +kernel
theorem dX12_read__20 : decode cX12_read_ 20 = .ok (.iload_n 1, 1) := by decide +kernel
set_option maxRecDepth 20000 in
theorem ggX12_read__X12_isCode : GoodIn wsX12_read_ wsX12_isCode := goodIn_r _ [13] rfl (by decide +kernel)
set_option maxRecDepth 20000 in
theorem gX12_read__X12_isCode : GoodIn wsX12_read_ (va_wsS RX12 158 yX12_isCode wsX12_isCode) := goodIn_app (goodIn_r _ [10, 11, 12] rfl (by decide +kernel)) ggX12_read__X12_isCode
theorem dX12_read__21 : decode cX12_read_ 21 = .ok (.invokestatic 158, 3) := by decide +kernel
theorem dX12_read__24 : decode cX12_read_ 24 = .ok (.ifCond .ne 5, 3) := by decide +kernel
theorem dX12_read__29 : decode cX12_read_ 29 = .ok (.iconst 0, 1) := by decide +kernel
theorem dX12_read__30 : decode cX12_read_ 30 = .ok (.istore_n 3, 1) := by decide +kernel
theorem dX12_read__31 : decode cX12_read_ 31 = .ok (.iload_n 3, 1) := by decide +kernel
theorem dX12_read__32 : decode cX12_read_ 32 = .ok (.iload_n 2, 1) := by decide +kernel
theorem dX12_read__33 : decode cX12_read_ 33 = .ok (.if_icmp .ge 49, 3) := by decide +kernel
theorem dX12_read__82 : decode cX12_read_ 82 = .ok (.aload_n 0, 1) := by decide +kernel
theorem dX12_read__83 : decode cX12_read_ 83 = .ok (.iload_n 2, 1) := by decide +kernel
theorem dX12_read__84 : decode cX12_read_ 84 = .ok (.putfield 91, 3) := by decide +kernel
theorem dX12_read__87 : decode cX12_read_ 87 = .ok (.aload_n 0, 1) := by decide +kernel
theorem dX12_read__88 : decode cX12_read_ 88 = .ok (.iload_n 1, 1) := by decide +kernel
theorem dX12_read__89 : decode cX12_read_ 89 = .ok (.iconst 0, 1) := by decide +kernel
set_option maxRecDepth 20000 in
theorem ggX12_read__X12_read : GoodIn wsX12_read_ wsX12_read := goodIn_r _ [17, 8, 6, 7, 9, 18, 19, 20, 21, 22, 12, 23, 5, 24, 25, 26, 27, 28, 29, 30, 31, 32, 33, 34, 35, 36, 37, 47, 48, 49, 50, 51, 52, 53, 54, 55, 56, 57, 58, 59, 60, 61, 62, 63, 64, 65, 66, 67, 68, 69, 70, 71, 72, 73, 74, 75, 76, 77, 78, 79, 80, 81, 82, 83, 84, 85, 86] rfl (by decide +kernel)
set_option maxRecDepth 20000 in
theorem gX12_read__X12_read : GoodIn wsX12_read_ (wsV RX12 131 RX12 yX12_read wsX12_read) := goodIn_app (goodIn_r _ [14, 15, 16, 12] rfl (by decide +kernel)) ggX12_read__X12_read
theorem dX12_read__90 : decode cX12_read_ 90 = .ok (.invokevirtual 131, 3) := by decide +kernel
theorem dX12_read__93 : decode cX12_read_ 93 = .ok (.ifCond .ne 13, 3) := by decide +kernel
theorem dX12_read__106 : decode cX12_read_ 106 = .ok (.aload_n 0, 1) := by decide +kernel
theorem dX12_read__107 : decode cX12_read_ 107 = .ok (.getfield 119, 3) := by decide +kernel
theorem dX12_read__110 : decode cX12_read_ 110 = .ok (.sipush 300, 3) := by decide +kernel
theorem dX12_read__113 : decode cX12_read_ 113 = .ok (.if_icmp .le 5, 3) := by decide +kernel
theorem dX12_read__118 : decode cX12_read_ 118 = .ok (.aload_n 0, 1) := by decide +kernel
theorem dX12_read__119 : decode cX12_read_ 119 = .ok (.aload_n 0, 1) := by decide +kernel
theorem dX12_read__120 : decode cX12_read_ 120 = .ok (.getfield 61, 3) := by decide +kernel
theorem dX12_read__123 : decode cX12_read_ 123 = .ok (.aload_n 0, 1) := by decide +kernel
theorem dX12_read__124 : decode cX12_read_ 124 = .ok (.getfield 119, 3) := by decide +kernel
set_option maxRecDepth 20000 in
theorem ggX12_read__X12_become : GoodIn wsX12_read_ wsX12_become := goodIn_r _ [41, 42, 43, 44, 45, 46, 47, 48, 49, 50, 51, 52, 53, 54, 55, 56, 57, 58, 59, 60, 61, 62, 63, 64, 65, 66, 67, 68, 69, 70, 71, 72, 73, 74, 75, 76, 77, 78, 79, 80, 81, 82, 83, 84, 85, 86] rfl (by decide +kernel)
set_option maxRecDepth 20000 in
theorem gX12_read__X12_become : GoodIn wsX12_read_ (wsV RX12 154 RX12 yX12_become wsX12_become) := goodIn_app (goodIn_r _ [38, 39, 40, 12] rfl (by decide +kernel)) ggX12_read__X12_become
theorem dX12_read__127 : decode cX12_read_ 127 = .ok (.invokevirtual 154, 3) := by decide +kernel
theorem dX12_read__130 : decode cX12_read_ 130 = .ok (.aload_n 0, 1) := by decide +kernel
theorem dX12_read__131 : decode cX12_read_ 131 = .ok (.getfield 119, 3) := by decide +kernel
theorem dX12_read__134 : decode cX12_read_ 134 = .ok (.ireturn, 1) := by decide +kernel
theorem dX12_read__116 : decode cX12_read_ 116 = .ok (.iconst (-1), 1) := by decide +kernel
theorem dX12_read__117 : decode cX12_read_ 117 = .ok (.ireturn, 1) := by decide +kernel
theorem dX12_read__96 : decode cX12_read_ 96 = .ok (.aload_n 0, 1) := by decide +kernel
theorem dX12_read__97 : decode cX12_read_ 97 = .ok (.aload_n 0, 1) := by decide +kernel
theorem dX12_read__98 : decode cX12_read_ 98 = .ok (.getfield 102, 3) := by decide +kernel
theorem dX12_read__101 : decode cX12_read_ 101 = .ok (.putfield 55, 3) := by decide +kernel
theorem dX12_read__104 : decode cX12_read_ 104 = .ok (.iconst (-1), 1) := by decide +kernel
theorem dX12_read__105 : decode cX12_read_ 105 = .ok (.ireturn, 1) := by decide +kernel
theorem dX12_read__36 : decode cX12_read_ 36 = .ok (.aload_n 0, 1) := by decide +kernel
theorem dX12_read__37 : decode cX12_read_ 37 = .ok (.getfield 9, 3) := by decide +kernel
theorem dX12_read__40 : decode cX12_read_ 40 = .ok (.iload_n 3, 1) := by decide +kernel
theorem dX12_read__41 : decode cX12_read_ 41 = .ok (.iaload, 1) := by decide +kernel
theorem dX12_read__42 : decode cX12_read_ 42 = .ok (.ifCond .lt 15, 3) := by decide +kernel
theorem dX12_read__57 : decode cX12_read_ 57 = .ok (.aload_n 0, 1) := by decide +kernel
theorem dX12_read__58 : decode cX12_read_ 58 = .ok (.iload_n 3, 1) := by decide +kernel
theorem dX12_read__59 : decode cX12_read_ 59 = .ok (.putfield 55, 3) := by decide +kernel
theorem dX12_read__62 : decode cX12_read_ 62 = .ok (.iconst (-1), 1) := by decide +kernel
theorem dX12_read__63 : decode cX12_read_ 63 = .ok (.ireturn, 1) := by decide +kernel
theorem dX12_read__45 : decode cX12_read_ 45 = .ok (.aload_n 0, 1) := by decide +kernel
theorem dX12_read__46 : decode cX12_read_ 46 = .ok (.getfield 9, 3) := by decide +kernel
theorem dX12_read__49 : decode cX12_read_ 49 = .ok (.iload_n 3, 1) := by decide +kernel
theorem dX12_read__50 : decode cX12_read_ 50 = .ok (.iaload, 1) := by decide +kernel
theorem dX12_read__51 : decode cX12_read_ 51 = .ok (.sipush 255, 3) := by decide +kernel
theorem dX12_read__54 : decode cX12_read_ 54 = .ok (.if_icmp .le 10, 3) := by decide +kernel
theorem dX12_read__64 : decode cX12_read_ 64 = .ok (.aload_n 0, 1) := by decide +kernel
theorem dX12_read__65 : decode cX12_read_ 65 = .ok (.getfield 58, 3) := by decide +kernel
theorem dX12_read__68 : decode cX12_read_ 68 = .ok (.iload_n 3, 1) := by decide +kernel
theorem dX12_read__69 : decode cX12_read_ 69 = .ok (.aload_n 0, 1) := by decide +kernel
theorem dX12_read__70 : decode cX12_read_ 70 = .ok (.getfield 9, 3) := by decide +kernel
theorem dX12_read__73 : decode cX12_read_ 73 = .ok (.iload_n 3, 1) := by decide +kernel
theorem dX12_read__74 : decode cX12_read_ 74 = .ok (.iaload, 1) := by decide +kernel
theorem dX12_read__75 : decode cX12_read_ 75 = .ok (.iastore, 1) := by decide +kernel
theorem dX12_read__76 : decode cX12_read_ 76 = .ok (.iinc 3 1, 3) := by decide +kernel
theorem dX12_read__79 : decode cX12_read_ 79 = .ok (.goto (-48), 3) := by decide +kernel
theorem dX12_read__27 : decode cX12_read_ 27 = .ok (.iconst (-1), 1) := by decide +kernel
theorem dX12_read__28 : decode cX12_read_ 28 = .ok (.ireturn, 1) := by decide +kernel
