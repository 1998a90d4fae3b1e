theorem dX11_end_0 : decode cX11_end 0 = .ok (.iload_n 1, 1) := by decide +kernel
theorem dX11_end_1 : decode cX11_end 1 = .ok (.ifCond .lt 14, 3) := by decide +kernel
theorem dX11_end_15 : decode cX11_end 15 = .ok (.iconst 0, 1) := by decide +kernel
theorem dX11_end_16 : decode cX11_end 16 = .ok (.ireturn, 1) := by decide +kernel
theorem dX11_end_4 : decode cX11_end 4 = .ok (.iload_n 1, 1) := by decide +kernel
theorem dX11_end_5 : decode cX11_end 5 = .ok (.aload_n 0, 1) := by decide +kernel
theorem dX11_end_6 : decode cX11_end 6 = .ok (.getfield 30, 3) := by decide +kernel
set_option maxRecDepth 20000 in
theorem ggX11_end_X5_length : GoodIn wsX11_end wsX5_length := goodIn_r _ [6, 7, 24, 25] rfl (by decide +kernel)
set_option maxRecDepth 20000 in
theorem gX11_end_X5_length : GoodIn wsX11_end (wsV RX11 94 RX5 yX5_length wsX5_length) := goodIn_app (goodIn_r _ [2, 3, 4, 5] rfl (by decide +kernel)) ggX11_end_X5_length
theorem dX11_end_9 : decode cX11_end 9 = .ok (.invokevirtual 94, 3) := by decide +kernel
theorem dX11_end_12 : decode cX11_end 12 = .ok (.if_icmp .le 5, 3) := by decide +kernel
theorem dX11_end_17 : decode cX11_end 17 = .ok (.aload_n 0, 1) := by decide +kernel
theorem dX11_end_18 : decode cX11_end 18 = .ok (.getfield 30, 3) := by decide +kernel
theorem dX11_end_21 : decode cX11_end 21 = .ok (.iload_n 1, 1) := by decide +kernel
set_option maxRecDepth 20000 in
theorem ggX11_end_X5_cut : GoodIn wsX11_end wsX5_cut := goodIn_r _ [11, 7, 24, 25] rfl (by decide +kernel)
set_option maxRecDepth 20000 in
theorem gX11_end_X5_cut : GoodIn wsX11_end (wsV RX11 102 RX5 yX5_cut wsX5_cut) := goodIn_app (goodIn_r _ [8, 9, 10, 5] rfl (by decide +kernel)) ggX11_end_X5_cut
theorem dX11_end_22 : decode cX11_end 22 = .ok (.invokevirtual 102, 3) := by decide +kernel
theorem dX11_end_25 : decode cX11_end 25 = .ok (.iconst 1, 1) := by decide +kernel
theorem dX11_end_26 : decode cX11_end 26 = .ok (.ireturn, 1) := by decide +kernel
theorem dX11_span_0 : decode cX11_span 0 = .ok (.aload_n 0, 1) := by decide +kernel
theorem dX11_span_1 : decode cX11_span 1 = .ok (.iconst (-1), 1) := by decide +kernel
theorem dX11_span_2 : decode cX11_span 2 = .ok (.putfield 90, 3) := by decide +kernel
theorem dX11_span_5 : decode cX11_span 5 = .ok (.aload_n 0, 1) := by decide +kernel
theorem dX11_span_6 : decode cX11_span 6 = .ok (.getfield 40, 3) := by decide +kernel
theorem dX11_span_9 : decode cX11_span 9 = .ok (.iload_n 1, 1) := by decide +kernel
set_option maxRecDepth 20000 in
theorem ggX11_span_X2_toldCode : GoodIn wsX11_span wsX2_toldCode := goodIn_r _ [8, 9, 10, 65, 66] rfl (by decide +kernel)
set_option maxRecDepth 20000 in
theorem gX11_span_X2_toldCode : GoodIn wsX11_span (wsV RX11 129 RX2 yX2_toldCode wsX2_toldCode) := goodIn_app (goodIn_r _ [4, 5, 6, 7] rfl (by decide +kernel)) ggX11_span_X2_toldCode
theorem dX11_span_10 : decode cX11_span 10 = .ok (.invokevirtual 129, 3) := by decide +kernel
theorem dX11_span_13 : decode cX11_span 13 = .ok (.astore 6, 2) := by decide +kernel
theorem dX11_span_15 : decode cX11_span 15 = .ok (.aload 6, 2) := by decide +kernel
theorem dX11_span_17 : decode cX11_span 17 = .ok (.ifnull 17, 3) := by decide +kernel
theorem dX11_span_34 : decode cX11_span 34 = .ok (.iconst (-1), 1) := by decide +kernel
theorem dX11_span_35 : decode cX11_span 35 = .ok (.ireturn, 1) := by decide +kernel
theorem dX11_blank_0 : decode cX11_blank 0 = .ok (.aload_n 0, 1) := by decide +kernel
theorem dX11_blank_1 : decode cX11_blank 1 = .ok (.getfield 40, 3) := by decide +kernel
theorem dX11_blank_4 : decode cX11_blank 4 = .ok (.iload_n 1, 1) := by decide +kernel
set_option maxRecDepth 20000 in
theorem ggX11_blank_X2_toldCode : GoodIn wsX11_blank wsX2_toldCode := goodIn_r _ [7, 8, 9, 40, 41] rfl (by decide +kernel)
set_option maxRecDepth 20000 in
theorem gX11_blank_X2_toldCode : GoodIn wsX11_blank (wsV RX11 129 RX2 yX2_toldCode wsX2_toldCode) := goodIn_app (goodIn_r _ [3, 4, 5, 6] rfl (by decide +kernel)) ggX11_blank_X2_toldCode
theorem dX11_blank_5 : decode cX11_blank 5 = .ok (.invokevirtual 129, 3) := by decide +kernel
theorem dX11_blank_8 : decode cX11_blank 8 = .ok (.astore_n 2, 1) := by decide +kernel
theorem dX11_blank_9 : decode cX11_blank 9 = .ok (.aload_n 2, 1) := by decide +kernel
theorem dX11_blank_10 : decode cX11_blank 10 = .ok (.ifnonnull 5, 3) := by decide +kernel
theorem dX11_blank_13 : decode cX11_blank 13 = .ok (.iconst 0, 1) := by decide +kernel
theorem dX11_blank_14 : decode cX11_blank 14 = .ok (.ireturn, 1) := by decide +kernel
theorem dX11_marksOf_0 : decode cX11_marksOf 0 = .ok (.iconst 0, 1) := by decide +kernel
theorem dX11_marksOf_1 : decode cX11_marksOf 1 = .ok (.istore_n 1, 1) := by decide +kernel
theorem dX11_marksOf_2 : decode cX11_marksOf 2 = .ok (.iconst 0, 1) := by decide +kernel
theorem dX11_marksOf_3 : decode cX11_marksOf 3 = .ok (.istore_n 2, 1) := by decide +kernel
theorem dX11_marksOf_4 : decode cX11_marksOf 4 = .ok (.iload_n 2, 1) := by decide +kernel
theorem dX11_marksOf_5 : decode cX11_marksOf 5 = .ok (.aload_n 0, 1) := by decide +kernel
set_option maxRecDepth 20000 in
theorem ggX11_marksOf_X5_length : GoodIn wsX11_marksOf wsX5_length := goodIn_r _ [6, 7, 13, 14] rfl (by decide +kernel)
set_option maxRecDepth 20000 in
theorem gX11_marksOf_X5_length : GoodIn wsX11_marksOf (wsV RX11 94 RX5 yX5_length wsX5_length) := goodIn_app (goodIn_r _ [2, 3, 4, 5] rfl (by decide +kernel)) ggX11_marksOf_X5_length
theorem dX11_marksOf_6 : decode cX11_marksOf 6 = .ok (.invokevirtual 94, 3) := by decide +kernel
theorem dX11_marksOf_9 : decode cX11_marksOf 9 = .ok (.if_icmp .ge 23, 3) := by decide +kernel
theorem dX11_marksOf_32 : decode cX11_marksOf 32 = .ok (.iload_n 1, 1) := by decide +kernel
theorem dX11_marksOf_33 : decode cX11_marksOf 33 = .ok (.ireturn, 1) := by decide +kernel
theorem dX11_marksOf_12 : decode cX11_marksOf 12 = .ok (.aload_n 0, 1) := by decide +kernel
theorem dX11_marksOf_13 : decode cX11_marksOf 13 = .ok (.iload_n 2, 1) := by decide +kernel
set_option maxRecDepth 20000 in
theorem ggX11_marksOf_X5_get : GoodIn wsX11_marksOf wsX5_get := goodIn_r _ [11, 7, 12, 13, 14] rfl (by decide +kernel)
set_option maxRecDepth 20000 in
theorem gX11_marksOf_X5_get : GoodIn wsX11_marksOf (wsV RX11 167 RX5 yX5_get wsX5_get) := goodIn_app (goodIn_r _ [8, 9, 10, 5] rfl (by decide +kernel)) ggX11_marksOf_X5_get
theorem dX11_marksOf_14 : decode cX11_marksOf 14 = .ok (.invokevirtual 167, 3) := by decide +kernel
theorem dX11_marksOf_17 : decode cX11_marksOf 17 = .ok (.ldc_w 261, 3) := by decide +kernel
theorem dX11_marksOf_20 : decode cX11_marksOf 20 = .ok (.if_icmp .ne 6, 3) := by decide +kernel
theorem dX11_marksOf_26 : decode cX11_marksOf 26 = .ok (.iinc 2 1, 3) := by decide +kernel
theorem dX11_marksOf_29 : decode cX11_marksOf 29 = .ok (.goto (-25), 3) := by decide +kernel
theorem dX11_marksOf_23 : decode cX11_marksOf 23 = .ok (.iinc 1 1, 3) := by decide +kernel
theorem dX11_count_0 : decode cX11_count 0 = .ok (.iload_n 1, 1) := by decide +kernel
theorem dX11_count_1 : decode cX11_count 1 = .ok (.tableswitch 113 0 7 #[47, 55, 63, 71, 79, 87, 95, 104], 47) := by decide +kernel
theorem dX11_count_48 : decode cX11_count 48 = .ok (.aload_n 0, 1) := by decide +kernel
theorem dX11_count_49 : decode cX11_count 49 = .ok (.getfield 34, 3) := by decide +kernel
set_option maxRecDepth 20000 in
theorem ggX11_count_X5_length : GoodIn wsX11_count wsX5_length := goodIn_r _ [11, 12, 70, 71] rfl (by decide +kernel)
set_option maxRecDepth 20000 in
theorem gX11_count_X5_length : GoodIn wsX11_count (wsV RX11 94 RX5 yX5_length wsX5_length) := goodIn_app (goodIn_r _ [7, 8, 9, 10] rfl (by decide +kernel)) ggX11_count_X5_length
theorem dX11_count_52 : decode cX11_count 52 = .ok (.invokevirtual 94, 3) := by decide +kernel
theorem dX11_count_55 : decode cX11_count 55 = .ok (.ireturn, 1) := by decide +kernel
theorem dX11_count_56 : decode cX11_count 56 = .ok (.aload_n 0, 1) := by decide +kernel
theorem dX11_count_57 : decode cX11_count 57 = .ok (.getfield 30, 3) := by decide +kernel
theorem dX11_count_60 : decode cX11_count 60 = .ok (.invokevirtual 94, 3) := by decide +kernel
theorem dX11_count_63 : decode cX11_count 63 = .ok (.ireturn, 1) := by decide +kernel
theorem dX11_count_64 : decode cX11_count 64 = .ok (.aload_n 0, 1) := by decide +kernel
theorem dX11_count_65 : decode cX11_count 65 = .ok (.getfield 48, 3) := by decide +kernel
set_option maxRecDepth 20000 in
theorem ggX11_count_X4_length : GoodIn wsX11_count wsX4_length := goodIn_r _ [17, 18, 72, 73, 74, 75] rfl (by decide +kernel)
set_option maxRecDepth 20000 in
theorem gX11_count_X4_length : GoodIn wsX11_count (wsV RX11 150 RX4 yX4_length wsX4_length) := goodIn_app (goodIn_r _ [13, 14, 15, 16] rfl (by decide +kernel)) ggX11_count_X4_length
theorem dX11_count_68 : decode cX11_count 68 = .ok (.invokevirtual 150, 3) := by decide +kernel
theorem dX11_count_71 : decode cX11_count 71 = .ok (.ireturn, 1) := by decide +kernel
theorem dX11_count_72 : decode cX11_count 72 = .ok (.aload_n 0, 1) := by decide +kernel
theorem dX11_count_73 : decode cX11_count 73 = .ok (.getfield 59, 3) := by decide +kernel
set_option maxRecDepth 20000 in
theorem ggX11_count_X0_length : GoodIn wsX11_count wsX0_length := goodIn_r _ [23, 24, 76, 77, 78, 79] rfl (by decide +kernel)
set_option maxRecDepth 20000 in
theorem gX11_count_X0_length : GoodIn wsX11_count (wsV RX11 151 RX0 yX0_length wsX0_length) := goodIn_app (goodIn_r _ [19, 20, 21, 22] rfl (by decide +kernel)) ggX11_count_X0_length
theorem dX11_count_76 : decode cX11_count 76 = .ok (.invokevirtual 151, 3) := by decide +kernel
theorem dX11_count_79 : decode cX11_count 79 = .ok (.ireturn, 1) := by decide +kernel
theorem dX11_count_80 : decode cX11_count 80 = .ok (.aload_n 0, 1) := by decide +kernel
theorem dX11_count_81 : decode cX11_count 81 = .ok (.getfield 34, 3) := by decide +kernel
set_option maxRecDepth 20000 in
theorem ggX11_count_X11_marksOf : GoodIn wsX11_count wsX11_marksOf := goodIn_r _ [28, 29, 7, 8, 9, 10, 11, 12, 30, 31, 32, 33, 34, 70, 71] rfl (by decide +kernel)
set_option maxRecDepth 20000 in
theorem gX11_count_X11_marksOf : GoodIn wsX11_count (va_wsS RX11 152 yX11_marksOf wsX11_marksOf) := goodIn_app (goodIn_r _ [25, 26, 27] rfl (by decide +kernel)) ggX11_count_X11_marksOf
theorem dX11_count_84 : decode cX11_count 84 = .ok (.invokestatic 152, 3) := by decide +kernel
theorem dX11_count_87 : decode cX11_count 87 = .ok (.ireturn, 1) := by decide +kernel
theorem dX11_count_88 : decode cX11_count 88 = .ok (.aload_n 0, 1) := by decide +kernel
theorem dX11_count_89 : decode cX11_count 89 = .ok (.getfield 52, 3) := by decide +kernel
set_option maxRecDepth 20000 in
theorem ggX11_count_X3_length : GoodIn wsX11_count wsX3_length := goodIn_r _ [39, 40, 80, 81, 82] rfl (by decide +kernel)
set_option maxRecDepth 20000 in
theorem gX11_count_X3_length : GoodIn wsX11_count (wsV RX11 155 RX3 yX3_length wsX3_length) := goodIn_app (goodIn_r _ [35, 36, 37, 38] rfl (by decide +kernel)) ggX11_count_X3_length
theorem dX11_count_92 : decode cX11_count 92 = .ok (.invokevirtual 155, 3) := by decide +kernel
theorem dX11_count_95 : decode cX11_count 95 = .ok (.ireturn, 1) := by decide +kernel
theorem dX11_count_96 : decode cX11_count 96 = .ok (.aload_n 0, 1) := by decide +kernel
theorem dX11_count_97 : decode cX11_count 97 = .ok (.getfield 40, 3) := by decide +kernel
theorem dX11_count_100 : decode cX11_count 100 = .ok (.iconst 4, 1) := by decide +kernel
set_option maxRecDepth 20000 in
theorem ggX11_count_X2_lengthOf : GoodIn wsX11_count wsX2_lengthOf := goodIn_r _ [45, 46, 47, 48, 44, 49, 50, 51, 52, 53, 54, 55, 56, 57, 83, 84, 85, 86, 87, 88] rfl (by decide +kernel)
set_option maxRecDepth 20000 in
theorem gX11_count_X2_lengthOf : GoodIn wsX11_count (wsV RX11 156 RX2 yX2_lengthOf wsX2_lengthOf) := goodIn_app (goodIn_r _ [41, 42, 43, 44] rfl (by decide +kernel)) ggX11_count_X2_lengthOf
theorem dX11_count_101 : decode cX11_count 101 = .ok (.invokevirtual 156, 3) := by decide +kernel
theorem dX11_count_104 : decode cX11_count 104 = .ok (.ireturn, 1) := by decide +kernel
theorem dX11_count_105 : decode cX11_count 105 = .ok (.aload_n 0, 1) := by decide +kernel
theorem dX11_count_106 : decode cX11_count 106 = .ok (.getfield 40, 3) := by decide +kernel
theorem dX11_count_109 : decode cX11_count 109 = .ok (.iconst 5, 1) := by decide +kernel
theorem dX11_count_110 : decode cX11_count 110 = .ok (.invokevirtual 156, 3) := by decide +kernel
theorem dX11_count_113 : decode cX11_count 113 = .ok (.ireturn, 1) := by decide +kernel
theorem dX11_count_114 : decode cX11_count 114 = .ok (.iconst (-1), 1) := by decide +kernel
theorem dX11_count_115 : decode cX11_count 115 = .ok (.ireturn, 1) := by decide +kernel
theorem dX11_writes_0 : decode cX11_writes 0 = .ok (.aload_n 0, 1) := by decide +kernel
theorem dX11_writes_1 : decode cX11_writes 1 = .ok (.iconst (-1), 1) := by decide +kernel
theorem dX11_writes_2 : decode cX11_writes 2 = .ok (.putfield 90, 3) := by decide +kernel
theorem dX11_writes_5 : decode cX11_writes 5 = .ok (.iload_n 1, 1) := by decide +kernel
set_option maxRecDepth 20000 in
theorem ggX11_writes_X2_known : GoodIn wsX11_writes wsX2_known := goodIn_r _ [7] rfl (by decide +kernel)
set_option maxRecDepth 20000 in
theorem gX11_writes_X2_known : GoodIn wsX11_writes (va_wsS RX11 117 yX2_known wsX2_known) := goodIn_app (goodIn_r _ [4, 5, 6] rfl (by decide +kernel)) ggX11_writes_X2_known
theorem dX11_writes_6 : decode cX11_writes 6 = .ok (.invokestatic 117, 3) := by decide +kernel
theorem dX11_writes_9 : decode cX11_writes 9 = .ok (.ifCond .ne 5, 3) := by decide +kernel
theorem dX11_writes_14 : decode cX11_writes 14 = .ok (.aload_n 0, 1) := by decide +kernel
theorem dX11_writes_15 : decode cX11_writes 15 = .ok (.getfield 44, 3) := by decide +kernel
theorem dX11_writes_18 : decode cX11_writes 18 = .ok (.iload_n 1, 1) := by decide +kernel
theorem dX11_writes_19 : decode cX11_writes 19 = .ok (.aload_n 0, 1) := by decide +kernel
theorem dX11_writes_20 : decode cX11_writes 20 = .ok (.getfield 34, 3) := by decide +kernel
set_option maxRecDepth 20000 in
theorem ggX11_writes_X7_write : GoodIn wsX11_writes wsX7_write := goodIn_r _ [12, 13, 14, 15, 16, 17, 18, 19, 20, 21, 22, 23, 24, 25, 26, 27, 28, 29, 30, 31, 32, 33, 6, 34, 35, 36, 37, 38, 39, 40, 41, 42, 43, 44, 45, 46, 47, 48, 49, 50, 51, 52, 53, 54, 55, 56, 57, 58, 59, 60, 61, 62, 63, 64, 65, 82, 83, 84, 85, 86, 87, 88, 89, 90, 91, 92] rfl (by decide +kernel)
set_option maxRecDepth 20000 in
theorem gX11_writes_X7_write : GoodIn wsX11_writes (wsV RX11 249 RX7 yX7_write wsX7_write) := goodIn_app (goodIn_r _ [8, 9, 10, 11] rfl (by decide +kernel)) ggX11_writes_X7_write
theorem dX11_writes_23 : decode cX11_writes 23 = .ok (.invokevirtual 249, 3) := by decide +kernel
theorem dX11_writes_26 : decode cX11_writes 26 = .ok (.istore_n 2, 1) := by decide +kernel
theorem dX11_writes_27 : decode cX11_writes 27 = .ok (.aload_n 0, 1) := by decide +kernel
theorem dX11_writes_28 : decode cX11_writes 28 = .ok (.aload_n 0, 1) := by decide +kernel
theorem dX11_writes_29 : decode cX11_writes 29 = .ok (.getfield 44, 3) := by decide +kernel
set_option maxRecDepth 20000 in
theorem ggX11_writes_X7_fault : GoodIn wsX11_writes wsX7_fault := goodIn_r _ [69, 13, 82, 83, 84] rfl (by decide +kernel)
set_option maxRecDepth 20000 in
theorem gX11_writes_X7_fault : GoodIn wsX11_writes (wsV RX11 127 RX7 yX7_fault wsX7_fault) := goodIn_app (goodIn_r _ [66, 67, 68, 11] rfl (by decide +kernel)) ggX11_writes_X7_fault
theorem dX11_writes_32 : decode cX11_writes 32 = .ok (.invokevirtual 127, 3) := by decide +kernel
theorem dX11_writes_35 : decode cX11_writes 35 = .ok (.putfield 90, 3) := by decide +kernel
theorem dX11_writes_38 : decode cX11_writes 38 = .ok (.iload_n 2, 1) := by decide +kernel
theorem dX11_writes_39 : decode cX11_writes 39 = .ok (.ireturn, 1) := by decide +kernel
theorem dX11_writes_12 : decode cX11_writes 12 = .ok (.iconst 0, 1) := by decide +kernel
theorem dX11_writes_13 : decode cX11_writes 13 = .ok (.ireturn, 1) := by decide +kernel
theorem dX11_size_0 : decode cX11_size 0 = .ok (.aload_n 0, 1) := by decide +kernel
theorem dX11_size_1 : decode cX11_size 1 = .ok (.iload_n 1, 1) := by decide +kernel
set_option maxRecDepth 20000 in
theorem ggX11_size_X11_writes : GoodIn wsX11_size wsX11_writes := goodIn_r _ [6, 7, 1, 8, 9, 10, 11, 12, 13, 14, 15, 16, 17, 18, 19, 20, 21, 22, 23, 24, 25, 26, 27, 28, 29, 30, 31, 32, 33, 34, 35, 36, 37, 38, 39, 40, 41, 42, 43, 44, 45, 46, 47, 48, 49, 50, 51, 52, 53, 54, 55, 56, 57, 58, 59, 60, 61, 62, 63, 64, 65, 66, 67, 68, 69, 70, 71, 72, 73, 74, 80, 81, 82, 83, 84, 85, 86, 87, 88, 89, 90, 91, 92, 93, 94, 95, 96, 97, 98, 99, 100, 101, 102] rfl (by decide +kernel)
set_option maxRecDepth 20000 in
theorem gX11_size_X11_writes : GoodIn wsX11_size (wsV RX11 170 RX11 yX11_writes wsX11_writes) := goodIn_app (goodIn_r _ [2, 3, 4, 5] rfl (by decide +kernel)) ggX11_size_X11_writes
theorem dX11_size_2 : decode cX11_size 2 = .ok (.invokevirtual 170, 3) := by decide +kernel
theorem dX11_size_5 : decode cX11_size 5 = .ok (.ifCond .eq 16, 3) := by decide +kernel
theorem dX11_size_21 : decode cX11_size 21 = .ok (.iconst (-1), 1) := by decide +kernel
theorem dX11_size_22 : decode cX11_size 22 = .ok (.ireturn, 1) := by decide +kernel
theorem dX11_size_8 : decode cX11_size 8 = .ok (.aload_n 0, 1) := by decide +kernel
theorem dX11_size_9 : decode cX11_size 9 = .ok (.getfield 44, 3) := by decide +kernel
set_option maxRecDepth 20000 in
theorem ggX11_size_X7_bytes : GoodIn wsX11_size wsX7_bytes := goodIn_r _ [78, 19, 92, 93, 94] rfl (by decide +kernel)
set_option maxRecDepth 20000 in
theorem gX11_size_X7_bytes : GoodIn wsX11_size (wsV RX11 173 RX7 yX7_bytes wsX7_bytes) := goodIn_app (goodIn_r _ [75, 76, 77, 16] rfl (by decide +kernel)) ggX11_size_X7_bytes
theorem dX11_size_12 : decode cX11_size 12 = .ok (.invokevirtual 173, 3) := by decide +kernel
set_option maxRecDepth 20000 in
theorem ggX11_size_X5_length : GoodIn wsX11_size wsX5_length := goodIn_r _ [30, 26, 95, 96] rfl (by decide +kernel)
set_option maxRecDepth 20000 in
theorem gX11_size_X5_length : GoodIn wsX11_size (wsV RX11 94 RX5 yX5_length wsX5_length) := goodIn_app (goodIn_r _ [79, 28, 29, 24] rfl (by decide +kernel)) ggX11_size_X5_length
theorem dX11_size_15 : decode cX11_size 15 = .ok (.invokevirtual 94, 3) := by decide +kernel
theorem dX11_size_18 : decode cX11_size 18 = .ok (.goto 4, 3) := by decide +kernel
theorem dX11_byteOf_0 : decode cX11_byteOf 0 = .ok (.aload_n 0, 1) := by decide +kernel
theorem dX11_byteOf_1 : decode cX11_byteOf 1 = .ok (.iload_n 1, 1) := by decide +kernel
set_option maxRecDepth 20000 in
theorem ggX11_byteOf_X11_writes : GoodIn wsX11_byteOf wsX11_writes := goodIn_r _ [6, 7, 1, 8, 9, 10, 11, 12, 13, 14, 15, 16, 17, 18, 19, 20, 21, 22, 23, 24, 25, 26, 27, 28, 29, 30, 31, 32, 33, 34, 35, 36, 37, 38, 39, 40, 41, 42, 43, 44, 45, 46, 47, 48, 49, 50, 51, 52, 53, 54, 55, 56, 57, 58, 59, 60, 61, 62, 63, 64, 65, 66, 67, 68, 69, 70, 71, 72, 73, 74, 80, 81, 82, 83, 84, 85, 86, 87, 88, 89, 90, 91, 92, 93, 94, 95, 96, 97, 98, 99, 100, 101, 102] rfl (by decide +kernel)
set_option maxRecDepth 20000 in
theorem gX11_byteOf_X11_writes : GoodIn wsX11_byteOf (wsV RX11 170 RX11 yX11_writes wsX11_writes) := goodIn_app (goodIn_r _ [2, 3, 4, 5] rfl (by decide +kernel)) ggX11_byteOf_X11_writes
theorem dX11_byteOf_2 : decode cX11_byteOf 2 = .ok (.invokevirtual 170, 3) := by decide +kernel
theorem dX11_byteOf_5 : decode cX11_byteOf 5 = .ok (.ifCond .eq 17, 3) := by decide +kernel
theorem dX11_byteOf_22 : decode cX11_byteOf 22 = .ok (.iconst (-1), 1) := by decide +kernel
theorem dX11_byteOf_23 : decode cX11_byteOf 23 = .ok (.ireturn, 1) := by decide +kernel
theorem dX11_byteOf_8 : decode cX11_byteOf 8 = .ok (.aload_n 0, 1) := by decide +kernel
theorem dX11_byteOf_9 : decode cX11_byteOf 9 = .ok (.getfield 44, 3) := by decide +kernel
set_option maxRecDepth 20000 in
theorem ggX11_byteOf_X7_bytes : GoodIn wsX11_byteOf wsX7_bytes := goodIn_r _ [78, 19, 92, 93, 94] rfl (by decide +kernel)
set_option maxRecDepth 20000 in
theorem gX11_byteOf_X7_bytes : GoodIn wsX11_byteOf (wsV RX11 173 RX7 yX7_bytes wsX7_bytes) := goodIn_app (goodIn_r _ [75, 76, 77, 16] rfl (by decide +kernel)) ggX11_byteOf_X7_bytes
theorem dX11_byteOf_12 : decode cX11_byteOf 12 = .ok (.invokevirtual 173, 3) := by decide +kernel
theorem dX11_byteOf_15 : decode cX11_byteOf 15 = .ok (.iload_n 2, 1) := by decide +kernel
set_option maxRecDepth 20000 in
theorem ggX11_byteOf_X5_get : GoodIn wsX11_byteOf wsX5_get := goodIn_r _ [34, 26, 35, 95, 96] rfl (by decide +kernel)
set_option maxRecDepth 20000 in
theorem gX11_byteOf_X5_get : GoodIn wsX11_byteOf (wsV RX11 167 RX5 yX5_get wsX5_get) := goodIn_app (goodIn_r _ [79, 32, 33, 24] rfl (by decide +kernel)) ggX11_byteOf_X5_get
theorem dX11_byteOf_16 : decode cX11_byteOf 16 = .ok (.invokevirtual 167, 3) := by decide +kernel
theorem dX11_byteOf_19 : decode cX11_byteOf 19 = .ok (.goto 4, 3) := by decide +kernel
theorem dX11_where_0 : decode cX11_where 0 = .ok (.aload_n 0, 1) := by decide +kernel
theorem dX11_where_1 : decode cX11_where 1 = .ok (.getfield 90, 3) := by decide +kernel
theorem dX11_where_4 : decode cX11_where 4 = .ok (.ireturn, 1) := by decide +kernel
theorem dX11_safe_0 : decode cX11_safe 0 = .ok (.aload_n 0, 1) := by decide +kernel
theorem dX11_safe_1 : decode cX11_safe 1 = .ok (.iconst (-1), 1) := by decide +kernel
theorem dX11_safe_2 : decode cX11_safe 2 = .ok (.putfield 90, 3) := by decide +kernel
theorem dX11_safe_5 : decode cX11_safe 5 = .ok (.iload_n 1, 1) := by decide +kernel
set_option maxRecDepth 20000 in
theorem ggX11_safe_X2_known : GoodIn wsX11_safe wsX2_known := goodIn_r _ [6] rfl (by decide +kernel)
set_option maxRecDepth 20000 in
theorem gX11_safe_X2_known : GoodIn wsX11_safe (va_wsS RX11 117 yX2_known wsX2_known) := goodIn_app (goodIn_r _ [3, 4, 5] rfl (by decide +kernel)) ggX11_safe_X2_known
theorem dX11_safe_6 : decode cX11_safe 6 = .ok (.invokestatic 117, 3) := by decide +kernel
theorem dX11_safe_9 : decode cX11_safe 9 = .ok (.ifCond .eq 10, 3) := by decide +kernel
theorem dX11_safe_19 : decode cX11_safe 19 = .ok (.iconst (-1), 1) := by decide +kernel
theorem dX11_safe_20 : decode cX11_safe 20 = .ok (.ireturn, 1) := by decide +kernel
theorem dX11_safe_12 : decode cX11_safe 12 = .ok (.iload_n 2, 1) := by decide +kernel
theorem dX11_safe_13 : decode cX11_safe 13 = .ok (.invokestatic 117, 3) := by decide +kernel
theorem dX11_safe_16 : decode cX11_safe 16 = .ok (.ifCond .ne 5, 3) := by decide +kernel
theorem dX11_safe_21 : decode cX11_safe 21 = .ok (.aload_n 0, 1) := by decide +kernel
theorem dX11_safe_22 : decode cX11_safe 22 = .ok (.getfield 40, 3) := by decide +kernel
theorem dX11_safe_25 : decode cX11_safe 25 = .ok (.iload_n 1, 1) := by decide +kernel
theorem dX11_safe_26 : decode cX11_safe 26 = .ok (.iload_n 2, 1) := by decide +kernel
set_option maxRecDepth 20000 in
theorem ggX11_safe_X2_neverLost : GoodIn wsX11_safe wsX2_neverLost := goodIn_r _ [10, 11, 12, 13, 5, 14, 15, 16, 17, 18, 19, 20, 21, 22, 23, 24, 25, 26, 27, 28, 29, 30, 43, 44, 45, 46, 47, 48] rfl (by decide +kernel)
set_option maxRecDepth 20000 in
theorem gX11_safe_X2_neverLost : GoodIn wsX11_safe (wsV RX11 185 RX2 yX2_neverLost wsX2_neverLost) := goodIn_app (goodIn_r _ [7, 8, 9, 5] rfl (by decide +kernel)) ggX11_safe_X2_neverLost
theorem dX11_safe_27 : decode cX11_safe 27 = .ok (.invokevirtual 185, 3) := by decide +kernel
theorem dX11_safe_30 : decode cX11_safe 30 = .ok (.ifCond .eq 7, 3) := by decide +kernel
theorem dX11_safe_37 : decode cX11_safe 37 = .ok (.iconst 0, 1) := by decide +kernel
theorem dX11_safe_38 : decode cX11_safe 38 = .ok (.ireturn, 1) := by decide +kernel
theorem dX11_safe_33 : decode cX11_safe 33 = .ok (.iconst 1, 1) := by decide +kernel
theorem dX11_safe_34 : decode cX11_safe 34 = .ok (.goto 4, 3) := by decide +kernel
theorem dX11_rows_0 : decode cX11_rows 0 = .ok (.aload_n 0, 1) := by decide +kernel
theorem dX11_rows_1 : decode cX11_rows 1 = .ok (.iconst (-1), 1) := by decide +kernel
theorem dX11_rows_2 : decode cX11_rows 2 = .ok (.putfield 90, 3) := by decide +kernel
theorem dX11_rows_5 : decode cX11_rows 5 = .ok (.iload_n 1, 1) := by decide +kernel
theorem dX11_rows_6 : decode cX11_rows 6 = .ok (.iconst 1, 1) := by decide +kernel
theorem dX11_rows_7 : decode cX11_rows 7 = .ok (.if_icmp .lt 8, 3) := by decide +kernel
theorem dX11_rows_15 : decode cX11_rows 15 = .ok (.iconst (-1), 1) := by decide +kernel
theorem dX11_rows_16 : decode cX11_rows 16 = .ok (.ireturn, 1) := by decide +kernel
theorem dX11_rows_10 : decode cX11_rows 10 = .ok (.iload_n 1, 1) := by decide +kernel
theorem dX11_rows_11 : decode cX11_rows 11 = .ok (.iconst 3, 1) := by decide +kernel
theorem dX11_rows_12 : decode cX11_rows 12 = .ok (.if_icmp .le 5, 3) := by decide +kernel
theorem dX11_rows_17 : decode cX11_rows 17 = .ok (.aload_n 0, 1) := by decide +kernel
theorem dX11_rows_18 : decode cX11_rows 18 = .ok (.getfield 68, 3) := by decide +kernel
theorem dX11_rows_21 : decode cX11_rows 21 = .ok (.iload_n 1, 1) := by decide +kernel
theorem dX11_rows_22 : decode cX11_rows 22 = .ok (.aload_n 0, 1) := by decide +kernel
theorem dX11_rows_23 : decode cX11_rows 23 = .ok (.getfield 34, 3) := by decide +kernel
set_option maxRecDepth 20000 in
theorem ggX11_rows_X9_find : GoodIn wsX11_rows wsX9_find := goodIn_r _ [8, 9, 10, 11, 12, 13, 14, 15, 16, 17, 18, 19, 20, 21, 22, 23, 24, 25, 26, 27, 28, 29, 30, 31, 32, 33, 34, 35, 36, 37, 38, 39, 40, 41, 42, 43, 44, 45, 46, 47, 48, 49, 50, 51, 52, 53, 54, 55, 56, 57, 58, 59, 60, 61, 62, 63, 64, 65, 66, 67, 68, 69, 70, 71, 72, 73, 74, 75, 76, 77, 78, 79, 80, 81, 82, 83, 84, 85, 86, 87, 88, 89, 90, 91, 92, 93, 94, 95, 96, 97, 98, 99, 100, 101, 102, 103, 104, 105, 106, 107, 108, 109, 110, 111, 112, 113, 114, 115, 116, 117, 118, 119, 120, 121, 122, 123, 124, 125, 126, 127, 128, 129, 130, 131, 132, 133, 134, 135, 136, 137, 138, 139, 140, 7, 141, 142, 143, 144, 145, 146, 147, 148, 149, 150, 151, 152, 153, 154, 155, 156, 157, 158, 159, 160, 161, 162, 163, 164, 165, 166, 167, 168, 169, 170, 171, 172, 173, 174, 175, 176, 177, 198, 199, 200, 201, 202, 203, 204, 205, 206, 207, 208, 209, 210, 211, 212, 213, 214, 215, 216, 217, 218, 219, 220, 221, 222, 223, 224, 225, 226, 227] rfl (by decide +kernel)
set_option maxRecDepth 20000 in
theorem gX11_rows_X9_find : GoodIn wsX11_rows (wsV RX11 194 RX9 yX9_find wsX9_find) := goodIn_app (goodIn_r _ [4, 5, 6, 7] rfl (by decide +kernel)) ggX11_rows_X9_find
theorem dX11_rows_26 : decode cX11_rows 26 = .ok (.invokevirtual 194, 3) := by decide +kernel
theorem dX11_rows_29 : decode cX11_rows 29 = .ok (.aload_n 0, 1) := by decide +kernel
theorem dX11_rows_30 : decode cX11_rows 30 = .ok (.getfield 68, 3) := by decide +kernel
set_option maxRecDepth 20000 in
theorem ggX11_rows_X9_keepFound : GoodIn wsX11_rows wsX9_keepFound := goodIn_r _ [181, 182, 9, 183, 184, 143, 185, 177, 198, 199, 200, 201, 202, 203, 204, 205, 206, 207, 208, 209] rfl (by decide +kernel)
set_option maxRecDepth 20000 in
theorem gX11_rows_X9_keepFound : GoodIn wsX11_rows (wsV RX11 198 RX9 yX9_keepFound wsX9_keepFound) := goodIn_app (goodIn_r _ [178, 179, 180, 7] rfl (by decide +kernel)) ggX11_rows_X9_keepFound
theorem dX11_rows_33 : decode cX11_rows 33 = .ok (.invokevirtual 198, 3) := by decide +kernel
theorem dX11_rows_36 : decode cX11_rows 36 = .ok (.ireturn, 1) := by decide +kernel
theorem dX11_row_0 : decode cX11_row 0 = .ok (.aload_n 0, 1) := by decide +kernel
theorem dX11_row_1 : decode cX11_row 1 = .ok (.getfield 68, 3) := by decide +kernel
theorem dX11_row_4 : decode cX11_row 4 = .ok (.iload_n 1, 1) := by decide +kernel
theorem dX11_row_5 : decode cX11_row 5 = .ok (.iload_n 2, 1) := by decide +kernel
set_option maxRecDepth 20000 in
theorem ggX11_row_X9_told : GoodIn wsX11_row wsX9_told := goodIn_r _ [6, 7, 8, 9, 10, 23, 24, 25, 26, 27, 28, 29, 30, 31, 32, 33, 34] rfl (by decide +kernel)
set_option maxRecDepth 20000 in
theorem gX11_row_X9_told : GoodIn wsX11_row (wsV RX11 201 RX9 yX9_told wsX9_told) := goodIn_app (goodIn_r _ [2, 3, 4, 5] rfl (by decide +kernel)) ggX11_row_X9_told
theorem dX11_row_6 : decode cX11_row 6 = .ok (.invokevirtual 201, 3) := by decide +kernel
theorem dX11_row_9 : decode cX11_row 9 = .ok (.ireturn, 1) := by decide +kernel
theorem dX11_worth_0 : decode cX11_worth 0 = .ok (.aload_n 0, 1) := by decide +kernel
theorem dX11_worth_1 : decode cX11_worth 1 = .ok (.getfield 52, 3) := by decide +kernel
theorem dX11_worth_4 : decode cX11_worth 4 = .ok (.aload_n 0, 1) := by decide +kernel
theorem dX11_worth_5 : decode cX11_worth 5 = .ok (.getfield 34, 3) := by decide +kernel
set_option maxRecDepth 20000 in
theorem ggX11_worth_X3_ofText : GoodIn wsX11_worth wsX3_ofText := goodIn_r _ [7, 8, 9, 10, 11, 12, 13, 14, 15, 16, 17, 18, 19, 20, 21, 6, 22, 23, 24, 25, 26, 27, 28, 29, 30, 31, 32, 33, 34, 35, 36, 37, 38, 39, 52, 53, 54, 55, 56] rfl (by decide +kernel)
set_option maxRecDepth 20000 in
theorem gX11_worth_X3_ofText : GoodIn wsX11_worth (wsV RX11 211 RX3 yX3_ofText wsX3_ofText) := goodIn_app (goodIn_r _ [3, 4, 5, 6] rfl (by decide +kernel)) ggX11_worth_X3_ofText
theorem dX11_worth_8 : decode cX11_worth 8 = .ok (.invokevirtual 211, 3) := by decide +kernel
theorem dX11_worth_11 : decode cX11_worth 11 = .ok (.ireturn, 1) := by decide +kernel
theorem dX11_choice_0 : decode cX11_choice 0 = .ok (.aload_n 0, 1) := by decide +kernel
theorem dX11_choice_1 : decode cX11_choice 1 = .ok (.getfield 86, 3) := by decide +kernel
theorem dX11_choice_4 : decode cX11_choice 4 = .ok (.iload_n 1, 1) := by decide +kernel
theorem dX11_choice_5 : decode cX11_choice 5 = .ok (.iload_n 2, 1) := by decide +kernel
set_option maxRecDepth 20000 in
theorem ggX11_choice_X1_told : GoodIn wsX11_choice wsX1_told := goodIn_r _ [6, 7, 8, 9, 10, 11, 24, 25, 26, 27, 28, 29, 30, 31, 32, 33, 34, 35, 36, 37, 38, 39, 40, 41, 42, 43] rfl (by decide +kernel)
set_option maxRecDepth 20000 in
theorem gX11_choice_X1_told : GoodIn wsX11_choice (wsV RX11 242 RX1 yX1_told wsX1_told) := goodIn_app (goodIn_r _ [2, 3, 4, 5] rfl (by decide +kernel)) ggX11_choice_X1_told
theorem dX11_choice_6 : decode cX11_choice 6 = .ok (.invokevirtual 242, 3) := by decide +kernel
theorem dX11_choice_9 : decode cX11_choice 9 = .ok (.ireturn, 1) := by decide +kernel
