theorem dX12_feed_0 : decode cX12_feed 0 = .ok (.aload_n 0, 1) := by decide +kernel
theorem dX12_feed_1 : decode cX12_feed 1 = .ok (.iconst 0, 1) := by decide +kernel
theorem dX12_feed_2 : decode cX12_feed 2 = .ok (.putfield 85, 3) := by decide +kernel
theorem dX12_feed_5 : decode cX12_feed 5 = .ok (.aload_n 0, 1) := by decide +kernel
theorem dX12_feed_6 : decode cX12_feed 6 = .ok (.getfield 151, 3) := by decide +kernel
theorem dX12_feed_9 : decode cX12_feed 9 = .ok (.iconst 5, 1) := by decide +kernel
theorem dX12_feed_10 : decode cX12_feed 10 = .ok (.iadd, 1) := by decide +kernel
theorem dX12_feed_11 : decode cX12_feed 11 = .ok (.sipush 900, 3) := by decide +kernel
theorem dX12_feed_14 : decode cX12_feed 14 = .ok (.if_icmp .le 5, 3) := by decide +kernel
theorem dX12_feed_19 : decode cX12_feed 19 = .ok (.aload_n 0, 1) := by decide +kernel
theorem dX12_feed_20 : decode cX12_feed 20 = .ok (.getfield 9, 3) := by decide +kernel
theorem dX12_feed_23 : decode cX12_feed 23 = .ok (.aload_n 0, 1) := by decide +kernel
theorem dX12_feed_24 : decode cX12_feed 24 = .ok (.getfield 151, 3) := by decide +kernel
theorem dX12_feed_27 : decode cX12_feed 27 = .ok (.iload_n 1, 1) := by decide +kernel
theorem dX12_feed_28 : decode cX12_feed 28 = .ok (.iastore, 1) := by decide +kernel
theorem dX12_feed_29 : decode cX12_feed 29 = .ok (.aload_n 0, 1) := by decide +kernel
theorem dX12_feed_30 : decode cX12_feed 30 = .ok (.getfield 9, 3) := by decide +kernel
theorem dX12_feed_33 : decode cX12_feed 33 = .ok (.aload_n 0, 1) := by decide +kernel
theorem dX12_feed_34 : decode cX12_feed 34 = .ok (.getfield 151, 3) := by decide +kernel
theorem dX12_feed_37 : decode cX12_feed 37 = .ok (.iconst 1, 1) := by decide +kernel
theorem dX12_feed_38 : decode cX12_feed 38 = .ok (.iadd, 1) := by decide +kernel
theorem dX12_feed_39 : decode cX12_feed 39 = .ok (.iload_n 2, 1) := by decide +kernel
theorem dX12_feed_40 : decode cX12_feed 40 = .ok (.iastore, 1) := by decide +kernel
theorem dX12_feed_41 : decode cX12_feed 41 = .ok (.aload_n 0, 1) := by decide +kernel
theorem dX12_feed_42 : decode cX12_feed 42 = .ok (.getfield 9, 3) := by decide +kernel
theorem dX12_feed_45 : decode cX12_feed 45 = .ok (.aload_n 0, 1) := by decide +kernel
theorem dX12_feed_46 : decode cX12_feed 46 = .ok (.getfield 151, 3) := by decide +kernel
theorem dX12_feed_49 : decode cX12_feed 49 = .ok (.iconst 2, 1) := by decide +kernel
theorem dX12_feed_50 : decode cX12_feed 50 = .ok (.iadd, 1) := by decide +kernel
theorem dX12_feed_51 : decode cX12_feed 51 = .ok (.iload_n 3, 1) := by decide +kernel
theorem dX12_feed_52 : decode cX12_feed 52 = .ok (.iastore, 1) := by decide +kernel
theorem dX12_feed_53 : decode cX12_feed 53 = .ok (.aload_n 0, 1) := by decide +kernel
theorem dX12_feed_54 : decode cX12_feed 54 = .ok (.getfield 9, 3) := by decide +kernel
theorem dX12_feed_57 : decode cX12_feed 57 = .ok (.aload_n 0, 1) := by decide +kernel
theorem dX12_feed_58 : decode cX12_feed 58 = .ok (.getfield 151, 3) := by decide +kernel
theorem dX12_feed_61 : decode cX12_feed 61 = .ok (.iconst 3, 1) := by decide +kernel
theorem dX12_feed_62 : decode cX12_feed 62 = .ok (.iadd, 1) := by decide +kernel
theorem dX12_feed_63 : decode cX12_feed 63 = .ok (.iload 4, 2) := by decide +kernel
theorem dX12_feed_65 : decode cX12_feed 65 = .ok (.iastore, 1) := by decide +kernel
theorem dX12_feed_66 : decode cX12_feed 66 = .ok (.aload_n 0, 1) := by decide +kernel
theorem dX12_feed_67 : decode cX12_feed 67 = .ok (.getfield 9, 3) := by decide +kernel
theorem dX12_feed_70 : decode cX12_feed 70 = .ok (.aload_n 0, 1) := by decide +kernel
theorem dX12_feed_71 : decode cX12_feed 71 = .ok (.getfield 151, 3) := by decide +kernel
theorem dX12_feed_74 : decode cX12_feed 74 = .ok (.iconst 4, 1) := by decide +kernel
theorem dX12_feed_75 : decode cX12_feed 75 = .ok (.iadd, 1) := by decide +kernel
theorem dX12_feed_76 : decode cX12_feed 76 = .ok (.iload 5, 2) := by decide +kernel
theorem dX12_feed_78 : decode cX12_feed 78 = .ok (.iastore, 1) := by decide +kernel
theorem dX12_feed_79 : decode cX12_feed 79 = .ok (.aload_n 0, 1) := by decide +kernel
theorem dX12_feed_80 : decode cX12_feed 80 = .ok (.dup, 1) := by decide +kernel
theorem dX12_feed_81 : decode cX12_feed 81 = .ok (.getfield 151, 3) := by decide +kernel
theorem dX12_feed_84 : decode cX12_feed 84 = .ok (.iconst 5, 1) := by decide +kernel
theorem dX12_feed_85 : decode cX12_feed 85 = .ok (.iadd, 1) := by decide +kernel
theorem dX12_feed_86 : decode cX12_feed 86 = .ok (.putfield 151, 3) := by decide +kernel
theorem dX12_feed_89 : decode cX12_feed 89 = .ok (.aload_n 0, 1) := by decide +kernel
theorem dX12_feed_90 : decode cX12_feed 90 = .ok (.getfield 151, 3) := by decide +kernel
theorem dX12_feed_93 : decode cX12_feed 93 = .ok (.ireturn, 1) := by decide +kernel
theorem dX12_end_0 : decode cX12_end 0 = .ok (.aload_n 0, 1) := by decide +kernel
theorem dX12_end_1 : decode cX12_end 1 = .ok (.iconst 0, 1) := by decide +kernel
theorem dX12_end_2 : decode cX12_end 2 = .ok (.putfield 85, 3) := by decide +kernel
theorem dX12_end_5 : decode cX12_end 5 = .ok (.iload_n 1, 1) := by decide +kernel
theorem dX12_end_6 : decode cX12_end 6 = .ok (.ifCond .lt 11, 3) := by decide +kernel
theorem dX12_end_17 : decode cX12_end 17 = .ok (.iconst 0, 1) := by decide +kernel
theorem dX12_end_18 : decode cX12_end 18 = .ok (.ireturn, 1) := by decide +kernel
theorem dX12_end_9 : decode cX12_end 9 = .ok (.iload_n 1, 1) := by decide +kernel
theorem dX12_end_10 : decode cX12_end 10 = .ok (.aload_n 0, 1) := by decide +kernel
theorem dX12_end_11 : decode cX12_end 11 = .ok (.getfield 151, 3) := by decide +kernel
theorem dX12_end_14 : decode cX12_end 14 = .ok (.if_icmp .le 5, 3) := by decide +kernel
theorem dX12_end_19 : decode cX12_end 19 = .ok (.aload_n 0, 1) := by decide +kernel
theorem dX12_end_20 : decode cX12_end 20 = .ok (.iload_n 1, 1) := by decide +kernel
theorem dX12_end_21 : decode cX12_end 21 = .ok (.putfield 151, 3) := by decide +kernel
theorem dX12_end_24 : decode cX12_end 24 = .ok (.iconst 1, 1) := by decide +kernel
theorem dX12_end_25 : decode cX12_end 25 = .ok (.ireturn, 1) := by decide +kernel
theorem dX12_text_0 : decode cX12_text 0 = .ok (.aload_n 0, 1) := by decide +kernel
theorem dX12_text_1 : decode cX12_text 1 = .ok (.iconst 0, 1) := by decide +kernel
theorem dX12_text_2 : decode cX12_text 2 = .ok (.putfield 85, 3) := by decide +kernel
theorem dX12_text_5 : decode cX12_text 5 = .ok (.aload_n 0, 1) := by decide +kernel
theorem dX12_text_6 : decode cX12_text 6 = .ok (.iconst (-1), 1) := by decide +kernel
theorem dX12_text_7 : decode cX12_text 7 = .ok (.putfield 55, 3) := by decide +kernel
theorem dX12_text_10 : decode cX12_text 10 = .ok (.aload_n 0, 1) := by decide +kernel
theorem dX12_text_11 : decode cX12_text 11 = .ok (.getfield 151, 3) := by decide +kernel
theorem dX12_text_14 : decode cX12_text 14 = .ok (.istore_n 1, 1) := by decide +kernel
theorem dX12_text_15 : decode cX12_text 15 = .ok (.aload_n 0, 1) := by decide +kernel
theorem dX12_text_16 : decode cX12_text 16 = .ok (.iconst 0, 1) := by decide +kernel
theorem dX12_text_17 : decode cX12_text 17 = .ok (.putfield 151, 3) := by decide +kernel
theorem dX12_text_20 : decode cX12_text 20 = .ok (.iload_n 1, 1) := by decide +kernel
theorem dX12_text_21 : decode cX12_text 21 = .ok (.sipush 300, 3) := by decide +kernel
theorem dX12_text_24 : decode cX12_text 24 = .ok (.if_icmp .le 5, 3) := by decide +kernel
theorem dX12_text_29 : decode cX12_text 29 = .ok (.iconst 0, 1) := by decide +kernel
theorem dX12_text_30 : decode cX12_text 30 = .ok (.istore_n 2, 1) := by decide +kernel
theorem dX12_text_31 : decode cX12_text 31 = .ok (.iload_n 2, 1) := by decide +kernel
theorem dX12_text_32 : decode cX12_text 32 = .ok (.iload_n 1, 1) := by decide +kernel
theorem dX12_text_33 : decode cX12_text 33 = .ok (.if_icmp .ge 28, 3) := by decide +kernel
theorem dX12_text_61 : decode cX12_text 61 = .ok (.aload_n 0, 1) := by decide +kernel
theorem dX12_text_62 : decode cX12_text 62 = .ok (.aload_n 0, 1) := by decide +kernel
theorem dX12_text_63 : decode cX12_text 63 = .ok (.getfield 9, 3) := by decide +kernel
theorem dX12_text_66 : decode cX12_text 66 = .ok (.iload_n 1, 1) := by decide +kernel
set_option maxRecDepth 20000 in
theorem ggX12_text_X12_become : GoodIn wsX12_text wsX12_become := goodIn_r _ [15, 16, 17, 18, 19, 20, 21, 22, 23, 24, 25, 26, 27, 28, 29, 30, 31, 32, 33, 34, 35, 36, 37, 38, 39, 40, 41, 42, 43, 44, 45, 46, 47, 48, 49, 50, 51, 52, 53, 54, 55, 56, 57, 58, 59, 60] rfl (by decide +kernel)
set_option maxRecDepth 20000 in
theorem gX12_text_X12_become : GoodIn wsX12_text (wsV RX12 154 RX12 yX12_become wsX12_become) := goodIn_app (goodIn_r _ [12, 13, 14, 7] rfl (by decide +kernel)) ggX12_text_X12_become
theorem dX12_text_67 : decode cX12_text 67 = .ok (.invokevirtual 154, 3) := by decide +kernel
theorem dX12_text_70 : decode cX12_text 70 = .ok (.iload_n 1, 1) := by decide +kernel
theorem dX12_text_71 : decode cX12_text 71 = .ok (.ireturn, 1) := by decide +kernel
theorem dX12_read__0 : decode cX12_read_ 0 = .ok (.aload_n 0, 1) := by decide +kernel
theorem dX12_read__1 : decode cX12_read_ 1 = .ok (.iconst 0, 1) := by decide +kernel
theorem dX12_read__2 : decode cX12_read_ 2 = .ok (.putfield 85, 3) := by decide +kernel
theorem dX12_read__5 : decode cX12_read_ 5 = .ok (.aload_n 0, 1) := by decide +kernel
theorem dX12_read__6 : decode cX12_read_ 6 = .ok (.iconst (-1), 1) := by decide +kernel
theorem dX12_read__7 : decode cX12_read_ 7 = .ok (.putfield 55, 3) := by decide +kernel
theorem dX12_read__10 : decode cX12_read_ 10 = .ok (.aload_n 0, 1) := by decide +kernel
theorem dX12_read__11 : decode cX12_read_ 11 = .ok (.getfield 151, 3) := by decide +kernel
theorem dX12_read__14 : decode cX12_read_ 14 = .ok (.istore_n 2, 1) := by decide +kernel
theorem dX12_read__15 : decode cX12_read_ 15 = .ok (.aload_n 0, 1) := by decide +kernel
theorem dX12_read__16 : decode cX12_read_ 16 = .ok (.iconst 0, 1) := by decide +kernel
theorem dX12_read__17 : decode cX12_read_ 17 = .ok (.putfield 151, 3) := by decide +kernel
theorem dX12_read__20 : decode cX12_read_ 20 = .ok (.iload_n 1, 1) := by decide +kernel
set_option maxRecDepth 20000 in
theorem ggX12_read__X12_isCode : GoodIn wsX12_read_ wsX12_isCode := goodIn_r _ [13] rfl (by decide +kernel)
set_option maxRecDepth 20000 in
theorem gX12_read__X12_isCode : GoodIn wsX12_read_ (va_wsS RX12 158 yX12_isCode wsX12_isCode) := goodIn_app (goodIn_r _ [10, 11, 12] rfl (by decide +kernel)) ggX12_read__X12_isCode
theorem dX12_read__21 : decode cX12_read_ 21 = .ok (.invokestatic 158, 3) := by decide +kernel
theorem dX12_read__24 : decode cX12_read_ 24 = .ok (.ifCond .ne 5, 3) := by decide +kernel
theorem dX12_read__29 : decode cX12_read_ 29 = .ok (.iconst 0, 1) := by decide +kernel
theorem dX12_read__30 : decode cX12_read_ 30 = .ok (.istore_n 3, 1) := by decide +kernel
theorem dX12_read__31 : decode cX12_read_ 31 = .ok (.iload_n 3, 1) := by decide +kernel
theorem dX12_read__32 : decode cX12_read_ 32 = .ok (.iload_n 2, 1) := by decide +kernel
theorem dX12_read__33 : decode cX12_read_ 33 = .ok (.if_icmp .ge 49, 3) := by decide +kernel
theorem dX12_read__82 : decode cX12_read_ 82 = .ok (.aload_n 0, 1) := by decide +kernel
theorem dX12_read__83 : decode cX12_read_ 83 = .ok (.iload_n 2, 1) := by decide +kernel
theorem dX12_read__84 : decode cX12_read_ 84 = .ok (.putfield 91, 3) := by decide +kernel
theorem dX12_read__87 : decode cX12_read_ 87 = .ok (.aload_n 0, 1) := by decide +kernel
theorem dX12_read__88 : decode cX12_read_ 88 = .ok (.iload_n 1, 1) := by decide +kernel
theorem dX12_read__89 : decode cX12_read_ 89 = .ok (.iconst 0, 1) := by decide +kernel
set_option maxRecDepth 20000 in
theorem ggX12_read__X12_read : GoodIn wsX12_read_ wsX12_read := goodIn_r _ [17, 8, 6, 7, 9, 18, 19, 20, 21, 22, 12, 23, 5, 24, 25, 26, 27, 28, 29, 30, 31, 32, 33, 34, 35, 36, 37, 47, 48, 49, 50, 51, 52, 53, 54, 55, 56, 57, 58, 59, 60, 61, 62, 63, 64, 65, 66, 67, 68, 69, 70, 71, 72, 73, 74, 75, 76, 77, 78, 79, 80, 81, 82, 83, 84, 85, 86] rfl (by decide +kernel)
set_option maxRecDepth 20000 in
theorem gX12_read__X12_read : GoodIn wsX12_read_ (wsV RX12 131 RX12 yX12_read wsX12_read) := goodIn_app (goodIn_r _ [14, 15, 16, 12] rfl (by decide +kernel)) ggX12_read__X12_read
theorem dX12_read__90 : decode cX12_read_ 90 = .ok (.invokevirtual 131, 3) := by decide +kernel
theorem dX12_read__93 : decode cX12_read_ 93 = .ok (.ifCond .ne 13, 3) := by decide +kernel
theorem dX12_read__106 : decode cX12_read_ 106 = .ok (.aload_n 0, 1) := by decide +kernel
theorem dX12_read__107 : decode cX12_read_ 107 = .ok (.getfield 119, 3) := by decide +kernel
theorem dX12_read__110 : decode cX12_read_ 110 = .ok (.sipush 300, 3) := by decide +kernel
theorem dX12_read__113 : decode cX12_read_ 113 = .ok (.if_icmp .le 5, 3) := by decide +kernel
theorem dX12_read__118 : decode cX12_read_ 118 = .ok (.aload_n 0, 1) := by decide +kernel
theorem dX12_read__119 : decode cX12_read_ 119 = .ok (.aload_n 0, 1) := by decide +kernel
theorem dX12_read__120 : decode cX12_read_ 120 = .ok (.getfield 61, 3) := by decide +kernel
theorem dX12_read__123 : decode cX12_read_ 123 = .ok (.aload_n 0, 1) := by decide +kernel
theorem dX12_read__124 : decode cX12_read_ 124 = .ok (.getfield 119, 3) := by decide +kernel
set_option maxRecDepth 20000 in
theorem ggX12_read__X12_become : GoodIn wsX12_read_ wsX12_become := goodIn_r _ [41, 42, 43, 44, 45, 46, 47, 48, 49, 50, 51, 52, 53, 54, 55, 56, 57, 58, 59, 60, 61, 62, 63, 64, 65, 66, 67, 68, 69, 70, 71, 72, 73, 74, 75, 76, 77, 78, 79, 80, 81, 82, 83, 84, 85, 86] rfl (by decide +kernel)
set_option maxRecDepth 20000 in
theorem gX12_read__X12_become : GoodIn wsX12_read_ (wsV RX12 154 RX12 yX12_become wsX12_become) := goodIn_app (goodIn_r _ [38, 39, 40, 12] rfl (by decide +kernel)) ggX12_read__X12_become
theorem dX12_read__127 : decode cX12_read_ 127 = .ok (.invokevirtual 154, 3) := by decide +kernel
theorem dX12_read__130 : decode cX12_read_ 130 = .ok (.aload_n 0, 1) := by decide +kernel
theorem dX12_read__131 : decode cX12_read_ 131 = .ok (.getfield 119, 3) := by decide +kernel
theorem dX12_read__134 : decode cX12_read_ 134 = .ok (.ireturn, 1) := by decide +kernel
theorem dX12_read__27 : decode cX12_read_ 27 = .ok (.iconst (-1), 1) := by decide +kernel
theorem dX12_read__28 : decode cX12_read_ 28 = .ok (.ireturn, 1) := by decide +kernel
theorem dX12_count_0 : decode cX12_count 0 = .ok (.aload_n 0, 1) := by decide +kernel
theorem dX12_count_1 : decode cX12_count 1 = .ok (.iconst 0, 1) := by decide +kernel
theorem dX12_count_2 : decode cX12_count 2 = .ok (.putfield 85, 3) := by decide +kernel
theorem dX12_count_5 : decode cX12_count 5 = .ok (.iload_n 1, 1) := by decide +kernel
theorem dX12_count_6 : decode cX12_count 6 = .ok (.tableswitch 92 0 7 #[46, 53, 58, 63, 68, 73, 78, 85], 46) := by decide +kernel
theorem dX12_count_52 : decode cX12_count 52 = .ok (.aload_n 0, 1) := by decide +kernel
theorem dX12_count_53 : decode cX12_count 53 = .ok (.getfield 13, 3) := by decide +kernel
theorem dX12_count_56 : decode cX12_count 56 = .ok (.iconst 0, 1) := by decide +kernel
theorem dX12_count_57 : decode cX12_count 57 = .ok (.iaload, 1) := by decide +kernel
theorem dX12_count_58 : decode cX12_count 58 = .ok (.ireturn, 1) := by decide +kernel
theorem dX12_count_59 : decode cX12_count 59 = .ok (.aload_n 0, 1) := by decide +kernel
theorem dX12_count_60 : decode cX12_count 60 = .ok (.getfield 151, 3) := by decide +kernel
theorem dX12_count_63 : decode cX12_count 63 = .ok (.ireturn, 1) := by decide +kernel
theorem dX12_count_64 : decode cX12_count 64 = .ok (.aload_n 0, 1) := by decide +kernel
theorem dX12_count_65 : decode cX12_count 65 = .ok (.getfield 161, 3) := by decide +kernel
theorem dX12_count_68 : decode cX12_count 68 = .ok (.ireturn, 1) := by decide +kernel
theorem dX12_count_69 : decode cX12_count 69 = .ok (.aload_n 0, 1) := by decide +kernel
theorem dX12_count_70 : decode cX12_count 70 = .ok (.getfield 142, 3) := by decide +kernel
theorem dX12_count_73 : decode cX12_count 73 = .ok (.ireturn, 1) := by decide +kernel
theorem dX12_count_74 : decode cX12_count 74 = .ok (.aload_n 0, 1) := by decide +kernel
set_option maxRecDepth 20000 in
theorem ggX12_count_X12_marksOf : GoodIn wsX12_count wsX12_marksOf := goodIn_r _ [12, 2, 13, 14, 15, 16, 17, 18, 19, 20, 21, 22, 23, 24, 25, 26, 27, 28, 29, 30, 31, 32, 33, 34, 35, 36, 37, 38, 39, 40, 41, 42, 43, 44, 45, 46, 47, 48, 49, 50, 51, 52, 53, 54] rfl (by decide +kernel)
set_option maxRecDepth 20000 in
theorem gX12_count_X12_marksOf : GoodIn wsX12_count (wsV RX12 164 RX12 yX12_marksOf wsX12_marksOf) := goodIn_app (goodIn_r _ [8, 9, 10, 11] rfl (by decide +kernel)) ggX12_count_X12_marksOf
theorem dX12_count_75 : decode cX12_count 75 = .ok (.invokevirtual 164, 3) := by decide +kernel
theorem dX12_count_78 : decode cX12_count 78 = .ok (.ireturn, 1) := by decide +kernel
theorem dX12_count_79 : decode cX12_count 79 = .ok (.aload_n 0, 1) := by decide +kernel
theorem dX12_count_80 : decode cX12_count 80 = .ok (.getfield 168, 3) := by decide +kernel
theorem dX12_count_83 : decode cX12_count 83 = .ok (.ireturn, 1) := by decide +kernel
theorem dX12_count_84 : decode cX12_count 84 = .ok (.aload_n 0, 1) := by decide +kernel
theorem dX12_count_85 : decode cX12_count 85 = .ok (.getfield 27, 3) := by decide +kernel
theorem dX12_count_88 : decode cX12_count 88 = .ok (.iconst 0, 1) := by decide +kernel
theorem dX12_count_89 : decode cX12_count 89 = .ok (.iaload, 1) := by decide +kernel
theorem dX12_count_90 : decode cX12_count 90 = .ok (.ireturn, 1) := by decide +kernel
theorem dX12_count_91 : decode cX12_count 91 = .ok (.aload_n 0, 1) := by decide +kernel
theorem dX12_count_92 : decode cX12_count 92 = .ok (.getfield 27, 3) := by decide +kernel
theorem dX12_count_95 : decode cX12_count 95 = .ok (.iconst 1, 1) := by decide +kernel
theorem dX12_count_96 : decode cX12_count 96 = .ok (.iaload, 1) := by decide +kernel
theorem dX12_count_97 : decode cX12_count 97 = .ok (.ireturn, 1) := by decide +kernel
theorem dX12_count_98 : decode cX12_count 98 = .ok (.iconst (-1), 1) := by decide +kernel
theorem dX12_count_99 : decode cX12_count 99 = .ok (.ireturn, 1) := by decide +kernel
theorem dX12_at_0 : decode cX12_at 0 = .ok (.aload_n 0, 1) := by decide +kernel
theorem dX12_at_1 : decode cX12_at 1 = .ok (.iconst 0, 1) := by decide +kernel
theorem dX12_at_2 : decode cX12_at 2 = .ok (.putfield 85, 3) := by decide +kernel
theorem dX12_at_5 : decode cX12_at 5 = .ok (.iload_n 1, 1) := by decide +kernel
theorem dX12_at_6 : decode cX12_at 6 = .ok (.ifCond .lt 13, 3) := by decide +kernel
theorem dX12_at_19 : decode cX12_at 19 = .ok (.aload_n 0, 1) := by decide +kernel
theorem dX12_at_20 : decode cX12_at 20 = .ok (.iconst 1, 1) := by decide +kernel
theorem dX12_at_21 : decode cX12_at 21 = .ok (.putfield 85, 3) := by decide +kernel
theorem dX12_at_24 : decode cX12_at 24 = .ok (.iconst 0, 1) := by decide +kernel
theorem dX12_at_25 : decode cX12_at 25 = .ok (.ireturn, 1) := by decide +kernel
theorem dX12_at_9 : decode cX12_at 9 = .ok (.iload_n 1, 1) := by decide +kernel
theorem dX12_at_10 : decode cX12_at 10 = .ok (.aload_n 0, 1) := by decide +kernel
theorem dX12_at_11 : decode cX12_at 11 = .ok (.getfield 13, 3) := by decide +kernel
theorem dX12_at_14 : decode cX12_at 14 = .ok (.iconst 0, 1) := by decide +kernel
theorem dX12_at_15 : decode cX12_at 15 = .ok (.iaload, 1) := by decide +kernel
theorem dX12_at_16 : decode cX12_at 16 = .ok (.if_icmp .lt 10, 3) := by decide +kernel
theorem dX12_thrown_0 : decode cX12_thrown 0 = .ok (.aload_n 0, 1) := by decide +kernel
theorem dX12_thrown_1 : decode cX12_thrown 1 = .ok (.getfield 85, 3) := by decide +kernel
theorem dX12_thrown_4 : decode cX12_thrown 4 = .ok (.ireturn, 1) := by decide +kernel
theorem dX12_size_0 : decode cX12_size 0 = .ok (.aload_n 0, 1) := by decide +kernel
theorem dX12_size_1 : decode cX12_size 1 = .ok (.iconst 0, 1) := by decide +kernel
theorem dX12_size_2 : decode cX12_size 2 = .ok (.putfield 85, 3) := by decide +kernel
theorem dX12_size_5 : decode cX12_size 5 = .ok (.aload_n 0, 1) := by decide +kernel
theorem dX12_size_6 : decode cX12_size 6 = .ok (.iconst (-1), 1) := by decide +kernel
theorem dX12_size_7 : decode cX12_size 7 = .ok (.putfield 55, 3) := by decide +kernel
theorem dX12_size_10 : decode cX12_size 10 = .ok (.iload_n 1, 1) := by decide +kernel
set_option maxRecDepth 20000 in
theorem ggX12_size_X12_isCode : GoodIn wsX12_size wsX12_isCode := goodIn_r _ [10] rfl (by decide +kernel)
set_option maxRecDepth 20000 in
theorem gX12_size_X12_isCode : GoodIn wsX12_size (va_wsS RX12 158 yX12_isCode wsX12_isCode) := goodIn_app (goodIn_r _ [7, 8, 9] rfl (by decide +kernel)) ggX12_size_X12_isCode
theorem dX12_size_11 : decode cX12_size 11 = .ok (.invokestatic 158, 3) := by decide +kernel
theorem dX12_size_14 : decode cX12_size 14 = .ok (.ifCond .ne 5, 3) := by decide +kernel
theorem dX12_size_19 : decode cX12_size 19 = .ok (.aload_n 0, 1) := by decide +kernel
theorem dX12_size_20 : decode cX12_size 20 = .ok (.iload_n 1, 1) := by decide +kernel
theorem dX12_size_21 : decode cX12_size 21 = .ok (.aload_n 0, 1) := by decide +kernel
theorem dX12_size_22 : decode cX12_size 22 = .ok (.getfield 16, 3) := by decide +kernel
theorem dX12_size_25 : decode cX12_size 25 = .ok (.aload_n 0, 1) := by decide +kernel
theorem dX12_size_26 : decode cX12_size 26 = .ok (.getfield 13, 3) := by decide +kernel
theorem dX12_size_29 : decode cX12_size 29 = .ok (.iconst 0, 1) := by decide +kernel
theorem dX12_size_30 : decode cX12_size 30 = .ok (.iaload, 1) := by decide +kernel
set_option maxRecDepth 20000 in
theorem ggX12_size_X12_write : GoodIn wsX12_size wsX12_write := goodIn_r _ [14, 6, 5, 15, 16, 17, 9, 18, 19, 20, 21, 22, 23, 24, 25, 26, 27, 28, 29, 30, 31, 32, 33, 34, 35, 36, 37, 38, 39, 40, 41, 42, 43, 44, 45, 46, 47, 48, 49, 50, 51, 52, 53, 54, 55, 56, 57, 58, 59, 60, 61, 62, 63, 64, 65] rfl (by decide +kernel)
set_option maxRecDepth 20000 in
theorem gX12_size_X12_write : GoodIn wsX12_size (wsV RX12 127 RX12 yX12_write wsX12_write) := goodIn_app (goodIn_r _ [11, 12, 13, 9] rfl (by decide +kernel)) ggX12_size_X12_write
theorem dX12_size_31 : decode cX12_size 31 = .ok (.invokevirtual 127, 3) := by decide +kernel
theorem dX12_size_34 : decode cX12_size 34 = .ok (.ifCond .ne 13, 3) := by decide +kernel
theorem dX12_size_47 : decode cX12_size 47 = .ok (.aload_n 0, 1) := by decide +kernel
theorem dX12_size_48 : decode cX12_size 48 = .ok (.getfield 91, 3) := by decide +kernel
theorem dX12_size_51 : decode cX12_size 51 = .ok (.ireturn, 1) := by decide +kernel
theorem dX12_size_17 : decode cX12_size 17 = .ok (.iconst (-1), 1) := by decide +kernel
theorem dX12_size_18 : decode cX12_size 18 = .ok (.ireturn, 1) := by decide +kernel
theorem dX12_byteOf_0 : decode cX12_byteOf 0 = .ok (.aload_n 0, 1) := by decide +kernel
theorem dX12_byteOf_1 : decode cX12_byteOf 1 = .ok (.iconst 0, 1) := by decide +kernel
theorem dX12_byteOf_2 : decode cX12_byteOf 2 = .ok (.putfield 85, 3) := by decide +kernel
theorem dX12_byteOf_5 : decode cX12_byteOf 5 = .ok (.aload_n 0, 1) := by decide +kernel
theorem dX12_byteOf_6 : decode cX12_byteOf 6 = .ok (.iconst (-1), 1) := by decide +kernel
theorem dX12_byteOf_7 : decode cX12_byteOf 7 = .ok (.putfield 55, 3) := by decide +kernel
theorem dX12_byteOf_10 : decode cX12_byteOf 10 = .ok (.iload_n 1, 1) := by decide +kernel
set_option maxRecDepth 20000 in
theorem ggX12_byteOf_X12_isCode : GoodIn wsX12_byteOf wsX12_isCode := goodIn_r _ [11] rfl (by decide +kernel)
set_option maxRecDepth 20000 in
theorem gX12_byteOf_X12_isCode : GoodIn wsX12_byteOf (va_wsS RX12 158 yX12_isCode wsX12_isCode) := goodIn_app (goodIn_r _ [8, 9, 10] rfl (by decide +kernel)) ggX12_byteOf_X12_isCode
theorem dX12_byteOf_11 : decode cX12_byteOf 11 = .ok (.invokestatic 158, 3) := by decide +kernel
theorem dX12_byteOf_14 : decode cX12_byteOf 14 = .ok (.ifCond .ne 5, 3) := by decide +kernel
theorem dX12_byteOf_19 : decode cX12_byteOf 19 = .ok (.aload_n 0, 1) := by decide +kernel
theorem dX12_byteOf_20 : decode cX12_byteOf 20 = .ok (.iload_n 1, 1) := by decide +kernel
theorem dX12_byteOf_21 : decode cX12_byteOf 21 = .ok (.aload_n 0, 1) := by decide +kernel
theorem dX12_byteOf_22 : decode cX12_byteOf 22 = .ok (.getfield 16, 3) := by decide +kernel
theorem dX12_byteOf_25 : decode cX12_byteOf 25 = .ok (.aload_n 0, 1) := by decide +kernel
theorem dX12_byteOf_26 : decode cX12_byteOf 26 = .ok (.getfield 13, 3) := by decide +kernel
theorem dX12_byteOf_29 : decode cX12_byteOf 29 = .ok (.iconst 0, 1) := by decide +kernel
theorem dX12_byteOf_30 : decode cX12_byteOf 30 = .ok (.iaload, 1) := by decide +kernel
set_option maxRecDepth 20000 in
theorem ggX12_byteOf_X12_write : GoodIn wsX12_byteOf wsX12_write := goodIn_r _ [15, 6, 5, 16, 17, 18, 10, 19, 20, 21, 22, 23, 24, 25, 7, 26, 27, 28, 29, 30, 31, 32, 33, 34, 35, 36, 37, 38, 39, 40, 41, 42, 43, 44, 45, 46, 47, 48, 49, 50, 51, 52, 53, 54, 55, 56, 57, 58, 59, 60, 61, 62, 63, 64, 65] rfl (by decide +kernel)
set_option maxRecDepth 20000 in
theorem gX12_byteOf_X12_write : GoodIn wsX12_byteOf (wsV RX12 127 RX12 yX12_write wsX12_write) := goodIn_app (goodIn_r _ [12, 13, 14, 10] rfl (by decide +kernel)) ggX12_byteOf_X12_write
theorem dX12_byteOf_31 : decode cX12_byteOf 31 = .ok (.invokevirtual 127, 3) := by decide +kernel
theorem dX12_byteOf_34 : decode cX12_byteOf 34 = .ok (.ifCond .ne 13, 3) := by decide +kernel
theorem dX12_byteOf_47 : decode cX12_byteOf 47 = .ok (.iload_n 2, 1) := by decide +kernel
theorem dX12_byteOf_48 : decode cX12_byteOf 48 = .ok (.ifCond .lt 20, 3) := by decide +kernel
theorem dX12_byteOf_68 : decode cX12_byteOf 68 = .ok (.iconst (-1), 1) := by decide +kernel
theorem dX12_byteOf_69 : decode cX12_byteOf 69 = .ok (.ireturn, 1) := by decide +kernel
theorem dX12_byteOf_51 : decode cX12_byteOf 51 = .ok (.iload_n 2, 1) := by decide +kernel
theorem dX12_byteOf_52 : decode cX12_byteOf 52 = .ok (.aload_n 0, 1) := by decide +kernel
theorem dX12_byteOf_53 : decode cX12_byteOf 53 = .ok (.getfield 91, 3) := by decide +kernel
theorem dX12_byteOf_56 : decode cX12_byteOf 56 = .ok (.if_icmp .ge 12, 3) := by decide +kernel
theorem dX12_byteOf_17 : decode cX12_byteOf 17 = .ok (.iconst (-1), 1) := by decide +kernel
theorem dX12_byteOf_18 : decode cX12_byteOf 18 = .ok (.ireturn, 1) := by decide +kernel
theorem dX12_where_0 : decode cX12_where 0 = .ok (.aload_n 0, 1) := by decide +kernel
theorem dX12_where_1 : decode cX12_where 1 = .ok (.iconst 0, 1) := by decide +kernel
theorem dX12_where_2 : decode cX12_where 2 = .ok (.putfield 85, 3) := by decide +kernel
theorem dX12_where_5 : decode cX12_where 5 = .ok (.aload_n 0, 1) := by decide +kernel
theorem dX12_where_6 : decode cX12_where 6 = .ok (.getfield 55, 3) := by decide +kernel
theorem dX12_where_9 : decode cX12_where 9 = .ok (.ireturn, 1) := by decide +kernel
theorem dX12_harm_0 : decode cX12_harm 0 = .ok (.aload_n 0, 1) := by decide +kernel
theorem dX12_harm_1 : decode cX12_harm 1 = .ok (.iconst 0, 1) := by decide +kernel
theorem dX12_harm_2 : decode cX12_harm 2 = .ok (.putfield 85, 3) := by decide +kernel
theorem dX12_harm_5 : decode cX12_harm 5 = .ok (.aload_n 0, 1) := by decide +kernel
theorem dX12_harm_6 : decode cX12_harm 6 = .ok (.iconst (-1), 1) := by decide +kernel
theorem dX12_harm_7 : decode cX12_harm 7 = .ok (.putfield 55, 3) := by decide +kernel
theorem dX12_harm_10 : decode cX12_harm 10 = .ok (.iload_n 1, 1) := by decide +kernel
set_option maxRecDepth 20000 in
theorem ggX12_harm_X12_isCode : GoodIn wsX12_harm wsX12_isCode := goodIn_r _ [11] rfl (by decide +kernel)
set_option maxRecDepth 20000 in
theorem gX12_harm_X12_isCode : GoodIn wsX12_harm (va_wsS RX12 158 yX12_isCode wsX12_isCode) := goodIn_app (goodIn_r _ [8, 9, 10] rfl (by decide +kernel)) ggX12_harm_X12_isCode
theorem dX12_harm_11 : decode cX12_harm 11 = .ok (.invokestatic 158, 3) := by decide +kernel
theorem dX12_harm_14 : decode cX12_harm 14 = .ok (.ifCond .eq 10, 3) := by decide +kernel
theorem dX12_harm_24 : decode cX12_harm 24 = .ok (.iconst (-1), 1) := by decide +kernel
theorem dX12_harm_25 : decode cX12_harm 25 = .ok (.ireturn, 1) := by decide +kernel
theorem dX12_harm_17 : decode cX12_harm 17 = .ok (.iload_n 2, 1) := by decide +kernel
theorem dX12_harm_18 : decode cX12_harm 18 = .ok (.invokestatic 158, 3) := by decide +kernel
theorem dX12_harm_21 : decode cX12_harm 21 = .ok (.ifCond .ne 5, 3) := by decide +kernel
theorem dX12_harm_26 : decode cX12_harm 26 = .ok (.aload_n 0, 1) := by decide +kernel
theorem dX12_harm_27 : decode cX12_harm 27 = .ok (.iload_n 1, 1) := by decide +kernel
theorem dX12_harm_28 : decode cX12_harm 28 = .ok (.iload_n 2, 1) := by decide +kernel
theorem dX12_harm_29 : decode cX12_harm 29 = .ok (.aload_n 0, 1) := by decide +kernel
theorem dX12_harm_30 : decode cX12_harm 30 = .ok (.getfield 16, 3) := by decide +kernel
theorem dX12_harm_33 : decode cX12_harm 33 = .ok (.aload_n 0, 1) := by decide +kernel
theorem dX12_harm_34 : decode cX12_harm 34 = .ok (.getfield 13, 3) := by decide +kernel
theorem dX12_harm_37 : decode cX12_harm 37 = .ok (.iconst 0, 1) := by decide +kernel
theorem dX12_harm_38 : decode cX12_harm 38 = .ok (.iaload, 1) := by decide +kernel
set_option maxRecDepth 20000 in
theorem ggX12_harm_X12_does : GoodIn wsX12_harm wsX12_does := goodIn_r _ [15, 5, 16, 7, 17, 18, 19, 10, 20, 21, 22, 23, 24, 25, 26, 27, 28, 29, 30, 31, 32, 33, 34, 35, 6, 36, 37, 38, 39, 40, 41, 42, 43, 44, 45, 46, 47, 48, 49, 50, 51, 52, 53, 54, 62, 63, 64, 65, 66, 67, 68, 69, 70, 71, 72, 73, 74, 75, 76, 77, 78, 79, 80, 81, 82, 83, 84, 85, 86, 87, 88, 89, 90, 91, 92, 93, 94, 95, 96, 97, 98, 99, 100, 101] rfl (by decide +kernel)
set_option maxRecDepth 20000 in
theorem gX12_harm_X12_does : GoodIn wsX12_harm (wsV RX12 138 RX12 yX12_does wsX12_does) := goodIn_app (goodIn_r _ [12, 13, 14, 10] rfl (by decide +kernel)) ggX12_harm_X12_does
theorem dX12_harm_39 : decode cX12_harm 39 = .ok (.invokevirtual 138, 3) := by decide +kernel
theorem dX12_harm_42 : decode cX12_harm 42 = .ok (.ifCond .ne 13, 3) := by decide +kernel
theorem dX12_harm_55 : decode cX12_harm 55 = .ok (.aload_n 0, 1) := by decide +kernel
theorem dX12_harm_56 : decode cX12_harm 56 = .ok (.aload_n 0, 1) := by decide +kernel
theorem dX12_harm_57 : decode cX12_harm 57 = .ok (.getfield 61, 3) := by decide +kernel
theorem dX12_harm_60 : decode cX12_harm 60 = .ok (.aload_n 0, 1) := by decide +kernel
theorem dX12_harm_61 : decode cX12_harm 61 = .ok (.getfield 119, 3) := by decide +kernel
set_option maxRecDepth 20000 in
theorem ggX12_harm_X12_become : GoodIn wsX12_harm wsX12_become := goodIn_r _ [58, 59, 60, 4, 3, 61, 62, 63, 64, 65, 66, 67, 68, 69, 70, 71, 72, 73, 74, 75, 76, 77, 78, 79, 80, 81, 82, 83, 84, 85, 86, 87, 88, 89, 90, 91, 92, 93, 94, 95, 96, 97, 98, 99, 100, 101] rfl (by decide +kernel)
set_option maxRecDepth 20000 in
theorem gX12_harm_X12_become : GoodIn wsX12_harm (wsV RX12 154 RX12 yX12_become wsX12_become) := goodIn_app (goodIn_r _ [55, 56, 57, 10] rfl (by decide +kernel)) ggX12_harm_X12_become
theorem dX12_harm_64 : decode cX12_harm 64 = .ok (.invokevirtual 154, 3) := by decide +kernel
theorem dX12_harm_67 : decode cX12_harm 67 = .ok (.aload_n 0, 1) := by decide +kernel
theorem dX12_harm_68 : decode cX12_harm 68 = .ok (.getfield 119, 3) := by decide +kernel
theorem dX12_harm_71 : decode cX12_harm 71 = .ok (.ireturn, 1) := by decide +kernel
theorem dX12_rough_0 : decode cX12_rough 0 = .ok (.aload_n 0, 1) := by decide +kernel
theorem dX12_rough_1 : decode cX12_rough 1 = .ok (.iconst 0, 1) := by decide +kernel
theorem dX12_rough_2 : decode cX12_rough 2 = .ok (.putfield 85, 3) := by decide +kernel
theorem dX12_rough_5 : decode cX12_rough 5 = .ok (.aload_n 0, 1) := by decide +kernel
theorem dX12_rough_6 : decode cX12_rough 6 = .ok (.iconst (-1), 1) := by decide +kernel
theorem dX12_rough_7 : decode cX12_rough 7 = .ok (.putfield 55, 3) := by decide +kernel
theorem dX12_rough_10 : decode cX12_rough 10 = .ok (.iload_n 1, 1) := by decide +kernel
set_option maxRecDepth 20000 in
theorem ggX12_rough_X12_isCode : GoodIn wsX12_rough wsX12_isCode := goodIn_r _ [14] rfl (by decide +kernel)
set_option maxRecDepth 20000 in
theorem gX12_rough_X12_isCode : GoodIn wsX12_rough (va_wsS RX12 158 yX12_isCode wsX12_isCode) := goodIn_app (goodIn_r _ [11, 12, 13] rfl (by decide +kernel)) ggX12_rough_X12_isCode
theorem dX12_rough_11 : decode cX12_rough 11 = .ok (.invokestatic 158, 3) := by decide +kernel
theorem dX12_rough_14 : decode cX12_rough 14 = .ok (.ifCond .eq 10, 3) := by decide +kernel
theorem dX12_rough_24 : decode cX12_rough 24 = .ok (.iconst (-1), 1) := by decide +kernel
theorem dX12_rough_25 : decode cX12_rough 25 = .ok (.ireturn, 1) := by decide +kernel
theorem dX12_rough_17 : decode cX12_rough 17 = .ok (.iload_n 2, 1) := by decide +kernel
theorem dX12_rough_18 : decode cX12_rough 18 = .ok (.invokestatic 158, 3) := by decide +kernel
theorem dX12_rough_21 : decode cX12_rough 21 = .ok (.ifCond .ne 5, 3) := by decide +kernel
theorem dX12_rough_26 : decode cX12_rough 26 = .ok (.aload_n 0, 1) := by decide +kernel
theorem dX12_rough_27 : decode cX12_rough 27 = .ok (.iload_n 1, 1) := by decide +kernel
theorem dX12_rough_28 : decode cX12_rough 28 = .ok (.aload_n 0, 1) := by decide +kernel
theorem dX12_rough_29 : decode cX12_rough 29 = .ok (.getfield 16, 3) := by decide +kernel
theorem dX12_rough_32 : decode cX12_rough 32 = .ok (.aload_n 0, 1) := by decide +kernel
theorem dX12_rough_33 : decode cX12_rough 33 = .ok (.getfield 13, 3) := by decide +kernel
theorem dX12_rough_36 : decode cX12_rough 36 = .ok (.iconst 0, 1) := by decide +kernel
theorem dX12_rough_37 : decode cX12_rough 37 = .ok (.iaload, 1) := by decide +kernel
set_option maxRecDepth 20000 in
theorem ggX12_rough_X12_write : GoodIn wsX12_rough wsX12_write := goodIn_r _ [18, 6, 5, 19, 20, 21, 13, 22, 23, 24, 25, 26, 27, 28, 29, 54, 55, 56, 57, 58, 59, 60, 61, 62, 63, 64, 65, 66, 67, 68, 69, 70, 71, 72, 73, 74, 75, 76, 77, 78, 79, 80, 81, 82, 83, 84, 85, 86, 87, 88, 89, 90, 91, 92, 93] rfl (by decide +kernel)
set_option maxRecDepth 20000 in
theorem gX12_rough_X12_write : GoodIn wsX12_rough (wsV RX12 127 RX12 yX12_write wsX12_write) := goodIn_app (goodIn_r _ [15, 16, 17, 13] rfl (by decide +kernel)) ggX12_rough_X12_write
theorem dX12_rough_38 : decode cX12_rough 38 = .ok (.invokevirtual 127, 3) := by decide +kernel
theorem dX12_rough_41 : decode cX12_rough 41 = .ok (.ifCond .ne 13, 3) := by decide +kernel
theorem dX12_rough_54 : decode cX12_rough 54 = .ok (.aload_n 0, 1) := by decide +kernel
theorem dX12_rough_55 : decode cX12_rough 55 = .ok (.getfield 91, 3) := by decide +kernel
theorem dX12_rough_58 : decode cX12_rough 58 = .ok (.sipush 900, 3) := by decide +kernel
theorem dX12_rough_61 : decode cX12_rough 61 = .ok (.if_icmp .le 5, 3) := by decide +kernel
theorem dX12_rough_66 : decode cX12_rough 66 = .ok (.iconst 0, 1) := by decide +kernel
theorem dX12_rough_67 : decode cX12_rough 67 = .ok (.istore_n 3, 1) := by decide +kernel
theorem dX12_rough_68 : decode cX12_rough 68 = .ok (.iconst 0, 1) := by decide +kernel
theorem dX12_rough_69 : decode cX12_rough 69 = .ok (.istore 4, 2) := by decide +kernel
theorem dX12_rough_71 : decode cX12_rough 71 = .ok (.aload_n 0, 1) := by decide +kernel
theorem dX12_rough_72 : decode cX12_rough 72 = .ok (.iconst 0, 1) := by decide +kernel
theorem dX12_rough_73 : decode cX12_rough 73 = .ok (.putfield 119, 3) := by decide +kernel
theorem dX12_rough_76 : decode cX12_rough 76 = .ok (.iload 4, 2) := by decide +kernel
theorem dX12_rough_78 : decode cX12_rough 78 = .ok (.aload_n 0, 1) := by decide +kernel
theorem dX12_rough_79 : decode cX12_rough 79 = .ok (.getfield 91, 3) := by decide +kernel
theorem dX12_rough_82 : decode cX12_rough 82 = .ok (.if_icmp .ge 77, 3) := by decide +kernel
theorem dX12_rough_159 : decode cX12_rough 159 = .ok (.aload_n 0, 1) := by decide +kernel
theorem dX12_rough_160 : decode cX12_rough 160 = .ok (.getfield 119, 3) := by decide +kernel
theorem dX12_rough_163 : decode cX12_rough 163 = .ok (.sipush 300, 3) := by decide +kernel
theorem dX12_rough_166 : decode cX12_rough 166 = .ok (.if_icmp .le 5, 3) := by decide +kernel
theorem dX12_rough_171 : decode cX12_rough 171 = .ok (.aload_n 0, 1) := by decide +kernel
theorem dX12_rough_172 : decode cX12_rough 172 = .ok (.aload_n 0, 1) := by decide +kernel
theorem dX12_rough_173 : decode cX12_rough 173 = .ok (.getfield 61, 3) := by decide +kernel
theorem dX12_rough_176 : decode cX12_rough 176 = .ok (.aload_n 0, 1) := by decide +kernel
theorem dX12_rough_177 : decode cX12_rough 177 = .ok (.getfield 119, 3) := by decide +kernel
set_option maxRecDepth 20000 in
theorem ggX12_rough_X12_become : GoodIn wsX12_rough wsX12_become := goodIn_r _ [50, 51, 52, 4, 3, 53, 54, 55, 56, 57, 58, 59, 60, 61, 62, 63, 64, 65, 66, 67, 68, 69, 70, 71, 72, 73, 74, 75, 76, 77, 78, 79, 80, 81, 82, 83, 84, 85, 86, 87, 88, 89, 90, 91, 92, 93] rfl (by decide +kernel)
set_option maxRecDepth 20000 in
theorem gX12_rough_X12_become : GoodIn wsX12_rough (wsV RX12 154 RX12 yX12_become wsX12_become) := goodIn_app (goodIn_r _ [47, 48, 49, 13] rfl (by decide +kernel)) ggX12_rough_X12_become
theorem dX12_rough_180 : decode cX12_rough 180 = .ok (.invokevirtual 154, 3) := by decide +kernel
theorem dX12_rough_183 : decode cX12_rough 183 = .ok (.iload_n 3, 1) := by decide +kernel
theorem dX12_rough_184 : decode cX12_rough 184 = .ok (.ireturn, 1) := by decide +kernel
theorem dX12_undo_0 : decode cX12_undo 0 = .ok (.aload_n 0, 1) := by decide +kernel
theorem dX12_undo_1 : decode cX12_undo 1 = .ok (.iconst 0, 1) := by decide +kernel
theorem dX12_undo_2 : decode cX12_undo 2 = .ok (.putfield 85, 3) := by decide +kernel
theorem dX12_undo_5 : decode cX12_undo 5 = .ok (.aload_n 0, 1) := by decide +kernel
theorem dX12_undo_6 : decode cX12_undo 6 = .ok (.iconst (-1), 1) := by decide +kernel
theorem dX12_undo_7 : decode cX12_undo 7 = .ok (.putfield 55, 3) := by decide +kernel
theorem dX12_undo_10 : decode cX12_undo 10 = .ok (.iload_n 1, 1) := by decide +kernel
set_option maxRecDepth 20000 in
theorem ggX12_undo_X12_isCode : GoodIn wsX12_undo wsX12_isCode := goodIn_r _ [9] rfl (by decide +kernel)
set_option maxRecDepth 20000 in
theorem gX12_undo_X12_isCode : GoodIn wsX12_undo (va_wsS RX12 158 yX12_isCode wsX12_isCode) := goodIn_app (goodIn_r _ [6, 7, 8] rfl (by decide +kernel)) ggX12_undo_X12_isCode
theorem dX12_undo_11 : decode cX12_undo 11 = .ok (.invokestatic 158, 3) := by decide +kernel
theorem dX12_undo_14 : decode cX12_undo 14 = .ok (.ifCond .eq 10, 3) := by decide +kernel
theorem dX12_undo_24 : decode cX12_undo 24 = .ok (.iconst (-1), 1) := by decide +kernel
theorem dX12_undo_25 : decode cX12_undo 25 = .ok (.ireturn, 1) := by decide +kernel
theorem dX12_undo_17 : decode cX12_undo 17 = .ok (.iload_n 2, 1) := by decide +kernel
theorem dX12_undo_18 : decode cX12_undo 18 = .ok (.invokestatic 158, 3) := by decide +kernel
theorem dX12_undo_21 : decode cX12_undo 21 = .ok (.ifCond .ne 5, 3) := by decide +kernel
theorem dX12_undo_26 : decode cX12_undo 26 = .ok (.aload_n 0, 1) := by decide +kernel
set_option maxRecDepth 20000 in
theorem ggX12_undo_X12_takeText : GoodIn wsX12_undo wsX12_takeText := goodIn_r _ [13, 14, 5, 4, 15, 73, 74, 75, 76, 77, 78, 79, 80, 81, 82, 83, 84, 85, 86, 87, 88, 89, 90, 91, 92, 93, 94, 95, 96, 97, 98, 99, 100, 101, 102, 103, 104, 105, 106, 107, 108, 109, 110, 111, 112] rfl (by decide +kernel)
set_option maxRecDepth 20000 in
theorem gX12_undo_X12_takeText : GoodIn wsX12_undo (wsV RX12 171 RX12 yX12_takeText wsX12_takeText) := goodIn_app (goodIn_r _ [10, 11, 12, 8] rfl (by decide +kernel)) ggX12_undo_X12_takeText
theorem dX12_undo_27 : decode cX12_undo 27 = .ok (.invokevirtual 171, 3) := by decide +kernel
theorem dX12_undo_30 : decode cX12_undo 30 = .ok (.aload_n 0, 1) := by decide +kernel
theorem dX12_undo_31 : decode cX12_undo 31 = .ok (.iload_n 1, 1) := by decide +kernel
theorem dX12_undo_32 : decode cX12_undo 32 = .ok (.iload_n 2, 1) := by decide +kernel
set_option maxRecDepth 20000 in
theorem ggX12_undo_X12_undoes : GoodIn wsX12_undo wsX12_undoes := goodIn_r _ [19, 4, 5, 20, 21, 22, 3, 23, 24, 25, 8, 26, 27, 28, 29, 30, 31, 32, 33, 34, 35, 36, 37, 38, 39, 40, 41, 42, 43, 44, 45, 46, 47, 48, 49, 50, 51, 52, 53, 54, 55, 56, 57, 58, 59, 60, 61, 62, 63, 64, 65, 73, 74, 75, 76, 77, 78, 79, 80, 81, 82, 83, 84, 85, 86, 87, 88, 89, 90, 91, 92, 93, 94, 95, 96, 97, 98, 99, 100, 101, 102, 103, 104, 105, 106, 107, 108, 109, 110, 111, 112] rfl (by decide +kernel)
set_option maxRecDepth 20000 in
theorem gX12_undo_X12_undoes : GoodIn wsX12_undo (wsV RX12 174 RX12 yX12_undoes wsX12_undoes) := goodIn_app (goodIn_r _ [16, 17, 18, 8] rfl (by decide +kernel)) ggX12_undo_X12_undoes
theorem dX12_undo_33 : decode cX12_undo 33 = .ok (.invokevirtual 174, 3) := by decide +kernel
theorem dX12_undo_36 : decode cX12_undo 36 = .ok (.ifCond .ne 13, 3) := by decide +kernel
theorem dX12_undo_49 : decode cX12_undo 49 = .ok (.aload_n 0, 1) := by decide +kernel
theorem dX12_undo_50 : decode cX12_undo 50 = .ok (.aload_n 0, 1) := by decide +kernel
theorem dX12_undo_51 : decode cX12_undo 51 = .ok (.getfield 64, 3) := by decide +kernel
theorem dX12_undo_54 : decode cX12_undo 54 = .ok (.aload_n 0, 1) := by decide +kernel
theorem dX12_undo_55 : decode cX12_undo 55 = .ok (.getfield 135, 3) := by decide +kernel
set_option maxRecDepth 20000 in
theorem ggX12_undo_X12_become : GoodIn wsX12_undo wsX12_become := goodIn_r _ [69, 70, 71, 14, 15, 72, 73, 74, 75, 76, 77, 78, 79, 80, 81, 82, 83, 84, 85, 86, 87, 88, 89, 90, 91, 92, 93, 94, 95, 96, 97, 98, 99, 100, 101, 102, 103, 104, 105, 106, 107, 108, 109, 110, 111, 112] rfl (by decide +kernel)
set_option maxRecDepth 20000 in
theorem gX12_undo_X12_become : GoodIn wsX12_undo (wsV RX12 154 RX12 yX12_become wsX12_become) := goodIn_app (goodIn_r _ [66, 67, 68, 8] rfl (by decide +kernel)) ggX12_undo_X12_become
theorem dX12_undo_58 : decode cX12_undo 58 = .ok (.invokevirtual 154, 3) := by decide +kernel
theorem dX12_undo_61 : decode cX12_undo 61 = .ok (.aload_n 0, 1) := by decide +kernel
theorem dX12_undo_62 : decode cX12_undo 62 = .ok (.getfield 135, 3) := by decide +kernel
theorem dX12_undo_65 : decode cX12_undo 65 = .ok (.ireturn, 1) := by decide +kernel
