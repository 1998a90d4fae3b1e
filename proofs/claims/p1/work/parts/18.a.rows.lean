theorem dX11_feed_0 : decode cX11_feed 0 = .ok (.aload_n 0, 1) := by decide +kernel
theorem dX11_feed_1 : decode cX11_feed 1 = .ok (.getfield 30, 3) := by decide +kernel
set_option maxRecDepth 20000 in
theorem ggX11_feed_X5_length : GoodIn wsX11_feed wsX5_length := goodIn_r _ [6, 7, 25, 26] rfl (by decide +kernel)
set_option maxRecDepth 20000 in
theorem gX11_feed_X5_length : GoodIn wsX11_feed (wsV RX11 94 RX5 yX5_length wsX5_length) := goodIn_app (goodIn_r _ [2, 3, 4, 5] rfl (by decide +kernel)) ggX11_feed_X5_length
theorem dX11_feed_4 : decode cX11_feed 4 = .ok (.invokevirtual 94, 3) := by decide +kernel
theorem dX11_feed_7 : decode cX11_feed 7 = .ok (.iconst 5, 1) := by decide +kernel
theorem dX11_feed_8 : decode cX11_feed 8 = .ok (.iadd, 1) := by decide +kernel
theorem dX11_feed_9 : decode cX11_feed 9 = .ok (.sipush 900, 3) := by decide +kernel
theorem dX11_feed_12 : decode cX11_feed 12 = .ok (.if_icmp .le 5, 3) := by decide +kernel
theorem dX11_feed_17 : decode cX11_feed 17 = .ok (.aload_n 0, 1) := by decide +kernel
theorem dX11_feed_18 : decode cX11_feed 18 = .ok (.getfield 30, 3) := by decide +kernel
theorem dX11_feed_21 : decode cX11_feed 21 = .ok (.iload_n 1, 1) := by decide +kernel
set_option maxRecDepth 20000 in
theorem ggX11_feed_X5_add : GoodIn wsX11_feed wsX5_add := goodIn_r _ [11, 7, 12, 25, 26] rfl (by decide +kernel)
set_option maxRecDepth 20000 in
theorem gX11_feed_X5_add : GoodIn wsX11_feed (wsV RX11 98 RX5 yX5_add wsX5_add) := goodIn_app (goodIn_r _ [8, 9, 10, 5] rfl (by decide +kernel)) ggX11_feed_X5_add
theorem dX11_feed_22 : decode cX11_feed 22 = .ok (.invokevirtual 98, 3) := by decide +kernel
theorem dX11_feed_25 : decode cX11_feed 25 = .ok (.pop, 1) := by decide +kernel
theorem dX11_feed_26 : decode cX11_feed 26 = .ok (.aload_n 0, 1) := by decide +kernel
theorem dX11_feed_27 : decode cX11_feed 27 = .ok (.getfield 30, 3) := by decide +kernel
theorem dX11_feed_30 : decode cX11_feed 30 = .ok (.iload_n 2, 1) := by decide +kernel
theorem dX11_feed_31 : decode cX11_feed 31 = .ok (.invokevirtual 98, 3) := by decide +kernel
theorem dX11_feed_34 : decode cX11_feed 34 = .ok (.pop, 1) := by decide +kernel
theorem dX11_feed_35 : decode cX11_feed 35 = .ok (.aload_n 0, 1) := by decide +kernel
theorem dX11_feed_36 : decode cX11_feed 36 = .ok (.getfield 30, 3) := by decide +kernel
theorem dX11_feed_39 : decode cX11_feed 39 = .ok (.iload_n 3, 1) := by decide +kernel
theorem dX11_feed_40 : decode cX11_feed 40 = .ok (.invokevirtual 98, 3) := by decide +kernel
theorem dX11_feed_43 : decode cX11_feed 43 = .ok (.pop, 1) := by decide +kernel
theorem dX11_feed_44 : decode cX11_feed 44 = .ok (.aload_n 0, 1) := by decide +kernel
theorem dX11_feed_45 : decode cX11_feed 45 = .ok (.getfield 30, 3) := by decide +kernel
theorem dX11_feed_48 : decode cX11_feed 48 = .ok (.iload 4, 2) := by decide +kernel
theorem dX11_feed_50 : decode cX11_feed 50 = .ok (.invokevirtual 98, 3) := by decide +kernel
theorem dX11_feed_53 : decode cX11_feed 53 = .ok (.pop, 1) := by decide +kernel
theorem dX11_feed_54 : decode cX11_feed 54 = .ok (.aload_n 0, 1) := by decide +kernel
theorem dX11_feed_55 : decode cX11_feed 55 = .ok (.getfield 30, 3) := by decide +kernel
theorem dX11_feed_58 : decode cX11_feed 58 = .ok (.iload 5, 2) := by decide +kernel
theorem dX11_feed_60 : decode cX11_feed 60 = .ok (.invokevirtual 98, 3) := by decide +kernel
theorem dX11_feed_63 : decode cX11_feed 63 = .ok (.pop, 1) := by decide +kernel
theorem dX11_feed_64 : decode cX11_feed 64 = .ok (.aload_n 0, 1) := by decide +kernel
theorem dX11_feed_65 : decode cX11_feed 65 = .ok (.getfield 30, 3) := by decide +kernel
theorem dX11_feed_68 : decode cX11_feed 68 = .ok (.invokevirtual 94, 3) := by decide +kernel
theorem dX11_feed_71 : decode cX11_feed 71 = .ok (.ireturn, 1) := by decide +kernel
theorem dX11_end_0 : decode cX11_end 0 = .ok (.iload_n 1, 1) := by decide +kernel
theorem dX11_end_1 : decode cX11_end 1 = .ok (.ifCond .lt 14, 3) := by decide +kernel
theorem dX11_end_15 : decode cX11_end 15 = .ok (.iconst 0, 1) := by decide +kernel
theorem dX11_end_16 : decode cX11_end 16 = .ok (.ireturn, 1) := by decide +kernel
theorem dX11_end_4 : decode cX11_end 4 = .ok (.iload_n 1, 1) := by decide +kernel
theorem dX11_end_5 : decode cX11_end 5 = .ok (.aload_n 0, 1) := by decide +kernel
theorem dX11_end_6 : decode cX11_end 6 = .ok (.getfield 30, 3) := by decide +kernel
set_option maxRecDepth 20000 in
theorem ggX11_end_X5_length : GoodIn wsX11_end wsX5_length := goodIn_r _ [6, 7, 24, 25] rfl (by decide +kernel)
set_option maxRecDepth 20000 in
theorem gX11_end_X5_length : GoodIn wsX11_end (wsV RX11 94 RX5 yX5_length wsX5_length) := goodIn_app (goodIn_r _ [2, 3, 4, 5] rfl (by decide +kernel)) ggX11_end_X5_length
theorem dX11_end_9 : decode cX11_end 9 = .ok (.invokevirtual 94, 3) := by decide +kernel
theorem dX11_end_12 : decode cX11_end 12 = .ok (.if_icmp .le 5, 3) := by decide +kernel
theorem dX11_end_17 : decode cX11_end 17 = .ok (.aload_n 0, 1) := by decide +kernel
theorem dX11_end_18 : decode cX11_end 18 = .ok (.getfield 30, 3) := by decide +kernel
theorem dX11_end_21 : decode cX11_end 21 = .ok (.iload_n 1, 1) := by decide +kernel
set_option maxRecDepth 20000 in
theorem ggX11_end_X5_cut : GoodIn wsX11_end wsX5_cut := goodIn_r _ [11, 7, 24, 25] rfl (by decide +kernel)
set_option maxRecDepth 20000 in
theorem gX11_end_X5_cut : GoodIn wsX11_end (wsV RX11 102 RX5 yX5_cut wsX5_cut) := goodIn_app (goodIn_r _ [8, 9, 10, 5] rfl (by decide +kernel)) ggX11_end_X5_cut
theorem dX11_end_22 : decode cX11_end 22 = .ok (.invokevirtual 102, 3) := by decide +kernel
theorem dX11_end_25 : decode cX11_end 25 = .ok (.iconst 1, 1) := by decide +kernel
theorem dX11_end_26 : decode cX11_end 26 = .ok (.ireturn, 1) := by decide +kernel
theorem dX11_text_0 : decode cX11_text 0 = .ok (.aload_n 0, 1) := by decide +kernel
theorem dX11_text_1 : decode cX11_text 1 = .ok (.iconst (-1), 1) := by decide +kernel
theorem dX11_text_2 : decode cX11_text 2 = .ok (.putfield 90, 3) := by decide +kernel
theorem dX11_text_5 : decode cX11_text 5 = .ok (.aload_n 0, 1) := by decide +kernel
theorem dX11_text_6 : decode cX11_text 6 = .ok (.getfield 30, 3) := by decide +kernel
set_option maxRecDepth 20000 in
theorem ggX11_text_X5_length : GoodIn wsX11_text wsX5_length := goodIn_r _ [8, 9, 82, 83] rfl (by decide +kernel)
set_option maxRecDepth 20000 in
theorem gX11_text_X5_length : GoodIn wsX11_text (wsV RX11 94 RX5 yX5_length wsX5_length) := goodIn_app (goodIn_r _ [4, 5, 6, 7] rfl (by decide +kernel)) ggX11_text_X5_length
theorem dX11_text_9 : decode cX11_text 9 = .ok (.invokevirtual 94, 3) := by decide +kernel
theorem dX11_text_12 : decode cX11_text 12 = .ok (.sipush 300, 3) := by decide +kernel
theorem dX11_text_15 : decode cX11_text 15 = .ok (.if_icmp .gt 14, 3) := by decide +kernel
theorem dX11_text_18 : decode cX11_text 18 = .ok (.aload_n 0, 1) := by decide +kernel
set_option maxRecDepth 20000 in
theorem ggX11_text_X11_tapeHoldsLetters : GoodIn wsX11_text wsX11_tapeHoldsLetters := goodIn_r _ [14, 2, 1, 4, 5, 6, 7, 8, 9, 15, 16, 17, 18, 19, 20, 21, 13, 22, 23, 24, 25, 70, 71, 72, 73, 74, 75, 76, 77, 78, 79, 80, 81, 82, 83] rfl (by decide +kernel)
set_option maxRecDepth 20000 in
theorem gX11_text_X11_tapeHoldsLetters : GoodIn wsX11_text (wsV RX11 105 RX11 yX11_tapeHoldsLetters wsX11_tapeHoldsLetters) := goodIn_app (goodIn_r _ [10, 11, 12, 13] rfl (by decide +kernel)) ggX11_text_X11_tapeHoldsLetters
theorem dX11_text_19 : decode cX11_text 19 = .ok (.invokevirtual 105, 3) := by decide +kernel
theorem dX11_text_22 : decode cX11_text 22 = .ok (.ifCond .eq 7, 3) := by decide +kernel
theorem dX11_text_25 : decode cX11_text 25 = .ok (.iconst 1, 1) := by decide +kernel
theorem dX11_text_26 : decode cX11_text 26 = .ok (.goto 4, 3) := by decide +kernel
theorem dX11_text_30 : decode cX11_text 30 = .ok (.istore_n 1, 1) := by decide +kernel
theorem dX11_text_31 : decode cX11_text 31 = .ok (.iload_n 1, 1) := by decide +kernel
theorem dX11_text_32 : decode cX11_text 32 = .ok (.ifCond .eq 15, 3) := by decide +kernel
theorem dX11_text_35 : decode cX11_text 35 = .ok (.aload_n 0, 1) := by decide +kernel
theorem dX11_text_36 : decode cX11_text 36 = .ok (.getfield 37, 3) := by decide +kernel
theorem dX11_text_39 : decode cX11_text 39 = .ok (.aload_n 0, 1) := by decide +kernel
theorem dX11_text_40 : decode cX11_text 40 = .ok (.getfield 30, 3) := by decide +kernel
set_option maxRecDepth 20000 in
theorem ggX11_text_X5_takeAll : GoodIn wsX11_text wsX5_takeAll := goodIn_r _ [29, 9, 30, 31, 32, 7, 33, 19, 34, 35, 36, 37, 82, 83] rfl (by decide +kernel)
set_option maxRecDepth 20000 in
theorem gX11_text_X5_takeAll : GoodIn wsX11_text (wsV RX11 109 RX5 yX5_takeAll wsX5_takeAll) := goodIn_app (goodIn_r _ [26, 27, 28, 7] rfl (by decide +kernel)) ggX11_text_X5_takeAll
theorem dX11_text_43 : decode cX11_text 43 = .ok (.invokevirtual 109, 3) := by decide +kernel
theorem dX11_text_46 : decode cX11_text 46 = .ok (.pop, 1) := by decide +kernel
theorem dX11_text_47 : decode cX11_text 47 = .ok (.aload_n 0, 1) := by decide +kernel
theorem dX11_text_48 : decode cX11_text 48 = .ok (.getfield 30, 3) := by decide +kernel
theorem dX11_text_51 : decode cX11_text 51 = .ok (.iconst 0, 1) := by decide +kernel
set_option maxRecDepth 20000 in
theorem ggX11_text_X5_cut : GoodIn wsX11_text wsX5_cut := goodIn_r _ [41, 9, 82, 83] rfl (by decide +kernel)
set_option maxRecDepth 20000 in
theorem gX11_text_X5_cut : GoodIn wsX11_text (wsV RX11 102 RX5 yX5_cut wsX5_cut) := goodIn_app (goodIn_r _ [38, 39, 40, 7] rfl (by decide +kernel)) ggX11_text_X5_cut
theorem dX11_text_52 : decode cX11_text 52 = .ok (.invokevirtual 102, 3) := by decide +kernel
theorem dX11_text_55 : decode cX11_text 55 = .ok (.iload_n 1, 1) := by decide +kernel
theorem dX11_text_56 : decode cX11_text 56 = .ok (.ifCond .eq 14, 3) := by decide +kernel
theorem dX11_text_59 : decode cX11_text 59 = .ok (.aload_n 0, 1) := by decide +kernel
theorem dX11_text_60 : decode cX11_text 60 = .ok (.aload_n 0, 1) := by decide +kernel
theorem dX11_text_61 : decode cX11_text 61 = .ok (.getfield 37, 3) := by decide +kernel
set_option maxRecDepth 20000 in
theorem ggX11_text_X11_become : GoodIn wsX11_text wsX11_become := goodIn_r _ [45, 46, 47, 48, 49, 50, 51, 52, 53, 54, 55, 56, 57, 58, 59, 60, 61, 62, 5, 6, 7, 8, 9, 63, 16, 17, 18, 19, 26, 27, 28, 29, 30, 31, 32, 33, 34, 35, 36, 37, 64, 65, 66, 67, 68, 69, 4, 70, 71, 72, 73, 74, 75, 76, 77, 78, 79, 80, 81, 84, 85, 86, 87, 82, 83, 88, 89, 90, 91, 92, 93, 94, 95, 96, 97, 98, 99, 100, 101, 102, 103, 104, 105, 106, 107] rfl (by decide +kernel)
set_option maxRecDepth 20000 in
theorem gX11_text_X11_become : GoodIn wsX11_text (wsV RX11 113 RX11 yX11_become wsX11_become) := goodIn_app (goodIn_r _ [42, 43, 44, 13] rfl (by decide +kernel)) ggX11_text_X11_become
theorem dX11_text_64 : decode cX11_text 64 = .ok (.invokevirtual 113, 3) := by decide +kernel
theorem dX11_text_67 : decode cX11_text 67 = .ok (.goto 4, 3) := by decide +kernel
theorem dX11_text_71 : decode cX11_text 71 = .ok (.ireturn, 1) := by decide +kernel
theorem dX11_read_0 : decode cX11_read 0 = .ok (.aload_n 0, 1) := by decide +kernel
theorem dX11_read_1 : decode cX11_read 1 = .ok (.iconst (-1), 1) := by decide +kernel
theorem dX11_read_2 : decode cX11_read 2 = .ok (.putfield 90, 3) := by decide +kernel
theorem dX11_read_5 : decode cX11_read 5 = .ok (.iload_n 1, 1) := by decide +kernel
set_option maxRecDepth 20000 in
theorem ggX11_read_X2_known : GoodIn wsX11_read wsX2_known := goodIn_r _ [8] rfl (by decide +kernel)
set_option maxRecDepth 20000 in
theorem gX11_read_X2_known : GoodIn wsX11_read (va_wsS RX11 117 yX2_known wsX2_known) := goodIn_app (goodIn_r _ [5, 6, 7] rfl (by decide +kernel)) ggX11_read_X2_known
theorem dX11_read_6 : decode cX11_read 6 = .ok (.invokestatic 117, 3) := by decide +kernel
theorem dX11_read_9 : decode cX11_read 9 = .ok (.ifCond .eq 14, 3) := by decide +kernel
theorem dX11_read_23 : decode cX11_read 23 = .ok (.iconst 0, 1) := by decide +kernel
theorem dX11_read_24 : decode cX11_read 24 = .ok (.istore_n 2, 1) := by decide +kernel
theorem dX11_read_25 : decode cX11_read 25 = .ok (.iload_n 2, 1) := by decide +kernel
theorem dX11_read_26 : decode cX11_read 26 = .ok (.ifCond .eq 31, 3) := by decide +kernel
theorem dX11_read_57 : decode cX11_read 57 = .ok (.aload_n 0, 1) := by decide +kernel
theorem dX11_read_58 : decode cX11_read 58 = .ok (.getfield 30, 3) := by decide +kernel
theorem dX11_read_61 : decode cX11_read 61 = .ok (.iconst 0, 1) := by decide +kernel
set_option maxRecDepth 20000 in
theorem ggX11_read_X5_cut : GoodIn wsX11_read wsX5_cut := goodIn_r _ [39, 19, 145, 146] rfl (by decide +kernel)
set_option maxRecDepth 20000 in
theorem gX11_read_X5_cut : GoodIn wsX11_read (wsV RX11 102 RX5 yX5_cut wsX5_cut) := goodIn_app (goodIn_r _ [93, 37, 38, 17] rfl (by decide +kernel)) ggX11_read_X5_cut
theorem dX11_read_62 : decode cX11_read 62 = .ok (.invokevirtual 102, 3) := by decide +kernel
theorem dX11_read_65 : decode cX11_read 65 = .ok (.iload_n 2, 1) := by decide +kernel
theorem dX11_read_66 : decode cX11_read 66 = .ok (.ifCond .eq 14, 3) := by decide +kernel
theorem dX11_read_80 : decode cX11_read 80 = .ok (.iconst (-1), 1) := by decide +kernel
theorem dX11_read_81 : decode cX11_read 81 = .ok (.ireturn, 1) := by decide +kernel
theorem dX11_read_12 : decode cX11_read 12 = .ok (.aload_n 0, 1) := by decide +kernel
set_option maxRecDepth 20000 in
theorem ggX11_read_X11_tapeHoldsBytes : GoodIn wsX11_read wsX11_tapeHoldsBytes := goodIn_r _ [13, 3, 1, 14, 15, 16, 17, 18, 19, 20, 21, 22, 23, 24, 133, 134, 135, 136, 137, 138, 139, 140, 141, 142, 143, 144, 145, 146] rfl (by decide +kernel)
set_option maxRecDepth 20000 in
theorem gX11_read_X11_tapeHoldsBytes : GoodIn wsX11_read (wsV RX11 120 RX11 yX11_tapeHoldsBytes wsX11_tapeHoldsBytes) := goodIn_app (goodIn_r _ [9, 10, 11, 12] rfl (by decide +kernel)) ggX11_read_X11_tapeHoldsBytes
theorem dX11_read_13 : decode cX11_read 13 = .ok (.invokevirtual 120, 3) := by decide +kernel
theorem dX11_read_16 : decode cX11_read 16 = .ok (.ifCond .eq 7, 3) := by decide +kernel
theorem dX11_read_19 : decode cX11_read 19 = .ok (.iconst 1, 1) := by decide +kernel
theorem dX11_read_20 : decode cX11_read 20 = .ok (.goto 4, 3) := by decide +kernel
theorem dX11_read_29 : decode cX11_read 29 = .ok (.aload_n 0, 1) := by decide +kernel
theorem dX11_read_30 : decode cX11_read 30 = .ok (.getfield 44, 3) := by decide +kernel
theorem dX11_read_33 : decode cX11_read 33 = .ok (.iload_n 1, 1) := by decide +kernel
theorem dX11_read_34 : decode cX11_read 34 = .ok (.aload_n 0, 1) := by decide +kernel
theorem dX11_read_35 : decode cX11_read 35 = .ok (.getfield 30, 3) := by decide +kernel
theorem dX11_read_38 : decode cX11_read 38 = .ok (.aload_n 0, 1) := by decide +kernel
theorem dX11_read_39 : decode cX11_read 39 = .ok (.getfield 37, 3) := by decide +kernel
set_option maxRecDepth 20000 in
theorem ggX11_read_X7_readExactly : GoodIn wsX11_read wsX7_readExactly := goodIn_r _ [29, 30, 31, 32, 33, 34, 35, 36, 37, 38, 17, 39, 19, 40, 15, 16, 18, 41, 42, 43, 7, 44, 45, 21, 22, 23, 24, 46, 47, 48, 49, 50, 51, 52, 53, 54, 55, 56, 57, 58, 59, 60, 61, 62, 63, 64, 65, 66, 67, 68, 12, 69, 70, 71, 72, 73, 74, 75, 76, 77, 78, 79, 80, 81, 82, 83, 84, 85, 86, 87, 88, 147, 148, 149, 145, 146, 150, 151, 152, 153, 154, 155] rfl (by decide +kernel)
set_option maxRecDepth 20000 in
theorem gX11_read_X7_readExactly : GoodIn wsX11_read (wsV RX11 123 RX7 yX7_readExactly wsX7_readExactly) := goodIn_app (goodIn_r _ [25, 26, 27, 28] rfl (by decide +kernel)) ggX11_read_X7_readExactly
theorem dX11_read_42 : decode cX11_read 42 = .ok (.invokevirtual 123, 3) := by decide +kernel
theorem dX11_read_45 : decode cX11_read 45 = .ok (.istore_n 2, 1) := by decide +kernel
theorem dX11_read_46 : decode cX11_read 46 = .ok (.aload_n 0, 1) := by decide +kernel
theorem dX11_read_47 : decode cX11_read 47 = .ok (.aload_n 0, 1) := by decide +kernel
theorem dX11_read_48 : decode cX11_read 48 = .ok (.getfield 44, 3) := by decide +kernel
set_option maxRecDepth 20000 in
theorem ggX11_read_X7_fault : GoodIn wsX11_read wsX7_fault := goodIn_r _ [92, 30, 147, 148, 149] rfl (by decide +kernel)
set_option maxRecDepth 20000 in
theorem gX11_read_X7_fault : GoodIn wsX11_read (wsV RX11 127 RX7 yX7_fault wsX7_fault) := goodIn_app (goodIn_r _ [89, 90, 91, 28] rfl (by decide +kernel)) ggX11_read_X7_fault
theorem dX11_read_51 : decode cX11_read 51 = .ok (.invokevirtual 127, 3) := by decide +kernel
theorem dX11_read_54 : decode cX11_read 54 = .ok (.putfield 90, 3) := by decide +kernel
theorem dX11_read_69 : decode cX11_read 69 = .ok (.aload_n 0, 1) := by decide +kernel
theorem dX11_read_70 : decode cX11_read 70 = .ok (.aload_n 0, 1) := by decide +kernel
theorem dX11_read_71 : decode cX11_read 71 = .ok (.getfield 37, 3) := by decide +kernel
set_option maxRecDepth 20000 in
theorem ggX11_read_X11_become : GoodIn wsX11_read wsX11_become := goodIn_r _ [97, 98, 99, 100, 101, 102, 103, 104, 105, 106, 107, 34, 108, 109, 110, 111, 112, 113, 15, 16, 17, 18, 19, 114, 21, 22, 23, 24, 115, 116, 117, 118, 119, 120, 121, 122, 123, 124, 125, 126, 127, 128, 129, 130, 131, 132, 14, 133, 134, 135, 136, 137, 138, 139, 140, 141, 142, 143, 144, 156, 157, 158, 159, 145, 146, 160, 161, 162, 163, 164, 165, 166, 167, 168, 169, 170, 171, 172, 173, 174, 175, 176, 177, 178, 179] rfl (by decide +kernel)
set_option maxRecDepth 20000 in
theorem gX11_read_X11_become : GoodIn wsX11_read (wsV RX11 113 RX11 yX11_become wsX11_become) := goodIn_app (goodIn_r _ [94, 95, 96, 12] rfl (by decide +kernel)) ggX11_read_X11_become
theorem dX11_read_74 : decode cX11_read 74 = .ok (.invokevirtual 113, 3) := by decide +kernel
theorem dX11_read_77 : decode cX11_read 77 = .ok (.goto 4, 3) := by decide +kernel
theorem dX11_blank_0 : decode cX11_blank 0 = .ok (.aload_n 0, 1) := by decide +kernel
theorem dX11_blank_1 : decode cX11_blank 1 = .ok (.getfield 40, 3) := by decide +kernel
theorem dX11_blank_4 : decode cX11_blank 4 = .ok (.iload_n 1, 1) := by decide +kernel
set_option maxRecDepth 20000 in
theorem ggX11_blank_X2_toldCode : GoodIn wsX11_blank wsX2_toldCode := goodIn_r _ [7, 8, 9, 40, 41] rfl (by decide +kernel)
set_option maxRecDepth 20000 in
theorem gX11_blank_X2_toldCode : GoodIn wsX11_blank (wsV RX11 129 RX2 yX2_toldCode wsX2_toldCode) := goodIn_app (goodIn_r _ [3, 4, 5, 6] rfl (by decide +kernel)) ggX11_blank_X2_toldCode
theorem dX11_blank_5 : decode cX11_blank 5 = .ok (.invokevirtual 129, 3) := by decide +kernel
theorem dX11_blank_8 : decode cX11_blank 8 = .ok (.astore_n 2, 1) := by decide +kernel
theorem dX11_blank_9 : decode cX11_blank 9 = .ok (.aload_n 2, 1) := by decide +kernel
theorem dX11_blank_10 : decode cX11_blank 10 = .ok (.ifnonnull 5, 3) := by decide +kernel
theorem dX11_blank_15 : decode cX11_blank 15 = .ok (.aload_n 2, 1) := by decide +kernel
set_option maxRecDepth 20000 in
theorem ggX11_blank_X10_empty : GoodIn wsX11_blank wsX10_empty := goodIn_r _ [14, 15, 16, 17, 18, 19, 20, 21, 42, 43, 44, 45] rfl (by decide +kernel)
set_option maxRecDepth 20000 in
theorem gX11_blank_X10_empty : GoodIn wsX11_blank (wsV RX11 147 RX10 yX10_empty wsX10_empty) := goodIn_app (goodIn_r _ [10, 11, 12, 13] rfl (by decide +kernel)) ggX11_blank_X10_empty
theorem dX11_blank_16 : decode cX11_blank 16 = .ok (.invokevirtual 147, 3) := by decide +kernel
theorem dX11_blank_19 : decode cX11_blank 19 = .ok (.aload_n 0, 1) := by decide +kernel
theorem dX11_blank_20 : decode cX11_blank 20 = .ok (.getfield 86, 3) := by decide +kernel
set_option maxRecDepth 20000 in
theorem ggX11_blank_X1_forgetFreshness : GoodIn wsX11_blank wsX1_forgetFreshness := goodIn_r _ [26, 27, 46, 47, 48, 49, 50, 51, 52, 53, 54, 55, 56, 57, 58, 59, 60, 61, 62, 63, 64, 65] rfl (by decide +kernel)
set_option maxRecDepth 20000 in
theorem gX11_blank_X1_forgetFreshness : GoodIn wsX11_blank (wsV RX11 143 RX1 yX1_forgetFreshness wsX1_forgetFreshness) := goodIn_app (goodIn_r _ [22, 23, 24, 25] rfl (by decide +kernel)) ggX11_blank_X1_forgetFreshness
theorem dX11_blank_23 : decode cX11_blank 23 = .ok (.invokevirtual 143, 3) := by decide +kernel
theorem dX11_blank_26 : decode cX11_blank 26 = .ok (.iconst 1, 1) := by decide +kernel
theorem dX11_blank_27 : decode cX11_blank 27 = .ok (.ireturn, 1) := by decide +kernel
theorem dX11_blank_13 : decode cX11_blank 13 = .ok (.iconst 0, 1) := by decide +kernel
theorem dX11_blank_14 : decode cX11_blank 14 = .ok (.ireturn, 1) := by decide +kernel
theorem dX11_count_0 : decode cX11_count 0 = .ok (.iload_n 1, 1) := by decide +kernel
theorem dX11_count_1 : decode cX11_count 1 = .ok (.tableswitch 113 0 7 #[47, 55, 63, 71, 79, 87, 95, 104], 47) := by decide +kernel
theorem dX11_count_48 : decode cX11_count 48 = .ok (.aload_n 0, 1) := by decide +kernel
theorem dX11_count_49 : decode cX11_count 49 = .ok (.getfield 34, 3) := by decide +kernel
set_option maxRecDepth 20000 in
theorem ggX11_count_X5_length : GoodIn wsX11_count wsX5_length := goodIn_r _ [11, 12, 70, 71] rfl (by decide +kernel)
set_option maxRecDepth 20000 in
theorem gX11_count_X5_length : GoodIn wsX11_count (wsV RX11 94 RX5 yX5_length wsX5_length) := goodIn_app (goodIn_r _ [7, 8, 9, 10] rfl (by decide +kernel)) ggX11_count_X5_length
theorem dX11_count_52 : decode cX11_count 52 = .ok (.invokevirtual 94, 3) := by decide +kernel
theorem dX11_count_55 : decode cX11_count 55 = .ok (.ireturn, 1) := by decide +kernel
theorem dX11_count_56 : decode cX11_count 56 = .ok (.aload_n 0, 1) := by decide +kernel
theorem dX11_count_57 : decode cX11_count 57 = .ok (.getfield 30, 3) := by decide +kernel
theorem dX11_count_60 : decode cX11_count 60 = .ok (.invokevirtual 94, 3) := by decide +kernel
theorem dX11_count_63 : decode cX11_count 63 = .ok (.ireturn, 1) := by decide +kernel
theorem dX11_count_64 : decode cX11_count 64 = .ok (.aload_n 0, 1) := by decide +kernel
theorem dX11_count_65 : decode cX11_count 65 = .ok (.getfield 48, 3) := by decide +kernel
set_option maxRecDepth 20000 in
theorem ggX11_count_X4_length : GoodIn wsX11_count wsX4_length := goodIn_r _ [17, 18, 72, 73, 74, 75] rfl (by decide +kernel)
set_option maxRecDepth 20000 in
theorem gX11_count_X4_length : GoodIn wsX11_count (wsV RX11 150 RX4 yX4_length wsX4_length) := goodIn_app (goodIn_r _ [13, 14, 15, 16] rfl (by decide +kernel)) ggX11_count_X4_length
theorem dX11_count_68 : decode cX11_count 68 = .ok (.invokevirtual 150, 3) := by decide +kernel
theorem dX11_count_71 : decode cX11_count 71 = .ok (.ireturn, 1) := by decide +kernel
theorem dX11_count_72 : decode cX11_count 72 = .ok (.aload_n 0, 1) := by decide +kernel
theorem dX11_count_73 : decode cX11_count 73 = .ok (.getfield 59, 3) := by decide +kernel
set_option maxRecDepth 20000 in
theorem ggX11_count_X0_length : GoodIn wsX11_count wsX0_length := goodIn_r _ [23, 24, 76, 77, 78, 79] rfl (by decide +kernel)
set_option maxRecDepth 20000 in
theorem gX11_count_X0_length : GoodIn wsX11_count (wsV RX11 151 RX0 yX0_length wsX0_length) := goodIn_app (goodIn_r _ [19, 20, 21, 22] rfl (by decide +kernel)) ggX11_count_X0_length
theorem dX11_count_76 : decode cX11_count 76 = .ok (.invokevirtual 151, 3) := by decide +kernel
theorem dX11_count_79 : decode cX11_count 79 = .ok (.ireturn, 1) := by decide +kernel
theorem dX11_count_80 : decode cX11_count 80 = .ok (.aload_n 0, 1) := by decide +kernel
theorem dX11_count_81 : decode cX11_count 81 = .ok (.getfield 34, 3) := by decide +kernel
set_option maxRecDepth 20000 in
theorem ggX11_count_X11_marksOf : GoodIn wsX11_count wsX11_marksOf := goodIn_r _ [28, 29, 7, 8, 9, 10, 11, 12, 30, 31, 32, 33, 34, 70, 71] rfl (by decide +kernel)
set_option maxRecDepth 20000 in
theorem gX11_count_X11_marksOf : GoodIn wsX11_count (va_wsS RX11 152 yX11_marksOf wsX11_marksOf) := goodIn_app (goodIn_r _ [25, 26, 27] rfl (by decide +kernel)) ggX11_count_X11_marksOf
theorem dX11_count_84 : decode cX11_count 84 = .ok (.invokestatic 152, 3) := by decide +kernel
theorem dX11_count_87 : decode cX11_count 87 = .ok (.ireturn, 1) := by decide +kernel
theorem dX11_count_88 : decode cX11_count 88 = .ok (.aload_n 0, 1) := by decide +kernel
theorem dX11_count_89 : decode cX11_count 89 = .ok (.getfield 52, 3) := by decide +kernel
set_option maxRecDepth 20000 in
theorem ggX11_count_X3_length : GoodIn wsX11_count wsX3_length := goodIn_r _ [39, 40, 80, 81, 82] rfl (by decide +kernel)
set_option maxRecDepth 20000 in
theorem gX11_count_X3_length : GoodIn wsX11_count (wsV RX11 155 RX3 yX3_length wsX3_length) := goodIn_app (goodIn_r _ [35, 36, 37, 38] rfl (by decide +kernel)) ggX11_count_X3_length
theorem dX11_count_92 : decode cX11_count 92 = .ok (.invokevirtual 155, 3) := by decide +kernel
theorem dX11_count_95 : decode cX11_count 95 = .ok (.ireturn, 1) := by decide +kernel
theorem dX11_count_96 : decode cX11_count 96 = .ok (.aload_n 0, 1) := by decide +kernel
theorem dX11_count_97 : decode cX11_count 97 = .ok (.getfield 40, 3) := by decide +kernel
theorem dX11_count_100 : decode cX11_count 100 = .ok (.iconst 4, 1) := by decide +kernel
set_option maxRecDepth 20000 in
theorem ggX11_count_X2_lengthOf : GoodIn wsX11_count wsX2_lengthOf := goodIn_r _ [45, 46, 47, 48, 44, 49, 50, 51, 52, 53, 54, 55, 56, 57, 83, 84, 85, 86, 87, 88] rfl (by decide +kernel)
set_option maxRecDepth 20000 in
theorem gX11_count_X2_lengthOf : GoodIn wsX11_count (wsV RX11 156 RX2 yX2_lengthOf wsX2_lengthOf) := goodIn_app (goodIn_r _ [41, 42, 43, 44] rfl (by decide +kernel)) ggX11_count_X2_lengthOf
theorem dX11_count_101 : decode cX11_count 101 = .ok (.invokevirtual 156, 3) := by decide +kernel
theorem dX11_count_104 : decode cX11_count 104 = .ok (.ireturn, 1) := by decide +kernel
theorem dX11_count_105 : decode cX11_count 105 = .ok (.aload_n 0, 1) := by decide +kernel
theorem dX11_count_106 : decode cX11_count 106 = .ok (.getfield 40, 3) := by decide +kernel
theorem dX11_count_109 : decode cX11_count 109 = .ok (.iconst 5, 1) := by decide +kernel
theorem dX11_count_110 : decode cX11_count 110 = .ok (.invokevirtual 156, 3) := by decide +kernel
theorem dX11_count_113 : decode cX11_count 113 = .ok (.ireturn, 1) := by decide +kernel
theorem dX11_count_114 : decode cX11_count 114 = .ok (.iconst (-1), 1) := by decide +kernel
theorem dX11_count_115 : decode cX11_count 115 = .ok (.ireturn, 1) := by decide +kernel
