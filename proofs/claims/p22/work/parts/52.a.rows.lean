theorem dX12_become_0 : decode cX12_become 0 = .ok (.aload_n 0, 1) := by decide +kernel
theorem dX12_become_1 : decode cX12_become 1 = .ok (.getfield 142, 3) := by decide +kernel
theorem dX12_become_4 : decode cX12_become 4 = .ok (.bipush 20, 2) := by decide +kernel
theorem dX12_become_6 : decode cX12_become 6 = .ok (.if_icmp .ne 19, 3) := by decide +kernel
theorem dX12_become_25 : decode cX12_become 25 = .ok (.aload_n 0, 1) := by decide +kernel
theorem dX12_become_26 : decode cX12_become 26 = .ok (.dup, 1) := by decide +kernel
theorem dX12_become_27 : decode cX12_become 27 = .ok (.getfield 142, 3) := by decide +kernel
theorem dX12_become_30 : decode cX12_become 30 = .ok (.iconst 1, 1) := by decide +kernel
theorem dX12_become_31 : decode cX12_become 31 = .ok (.iadd, 1) := by decide +kernel
theorem dX12_become_32 : decode cX12_become 32 = .ok (.putfield 142, 3) := by decide +kernel
theorem dX12_become_35 : decode cX12_become 35 = .ok (.iconst 1, 1) := by decide +kernel
theorem dX12_become_36 : decode cX12_become 36 = .ok (.aload_n 0, 1) := by decide +kernel
theorem dX12_become_37 : decode cX12_become 37 = .ok (.getfield 145, 3) := by decide +kernel
theorem dX12_become_40 : decode cX12_become 40 = .ok (.aload_n 0, 1) := by decide +kernel
theorem dX12_become_41 : decode cX12_become 41 = .ok (.getfield 142, 3) := by decide +kernel
theorem dX12_become_44 : decode cX12_become 44 = .ok (.iadd, 1) := by decide +kernel
theorem dX12_become_45 : decode cX12_become 45 = .ok (.iconst 1, 1) := by decide +kernel
theorem dX12_become_46 : decode cX12_become 46 = .ok (.isub, 1) := by decide +kernel
theorem dX12_become_47 : decode cX12_become 47 = .ok (.bipush 20, 2) := by decide +kernel
theorem dX12_become_49 : decode cX12_become 49 = .ok (.irem, 1) := by decide +kernel
theorem dX12_become_50 : decode cX12_become 50 = .ok (.iadd, 1) := by decide +kernel
theorem dX12_become_51 : decode cX12_become 51 = .ok (.istore_n 3, 1) := by decide +kernel
theorem dX12_become_52 : decode cX12_become 52 = .ok (.aload_n 0, 1) := by decide +kernel
theorem dX12_become_53 : decode cX12_become 53 = .ok (.getfield 13, 3) := by decide +kernel
theorem dX12_become_56 : decode cX12_become 56 = .ok (.iload_n 3, 1) := by decide +kernel
theorem dX12_become_57 : decode cX12_become 57 = .ok (.aload_n 0, 1) := by decide +kernel
theorem dX12_become_58 : decode cX12_become 58 = .ok (.getfield 13, 3) := by decide +kernel
theorem dX12_become_61 : decode cX12_become 61 = .ok (.iconst 0, 1) := by decide +kernel
theorem dX12_become_62 : decode cX12_become 62 = .ok (.iaload, 1) := by decide +kernel
theorem dX12_become_63 : decode cX12_become 63 = .ok (.iastore, 1) := by decide +kernel
theorem dX12_become_64 : decode cX12_become 64 = .ok (.iconst 0, 1) := by decide +kernel
theorem dX12_become_65 : decode cX12_become 65 = .ok (.istore 4, 2) := by decide +kernel
theorem dX12_become_67 : decode cX12_become 67 = .ok (.iload 4, 2) := by decide +kernel
theorem dX12_become_69 : decode cX12_become 69 = .ok (.aload_n 0, 1) := by decide +kernel
theorem dX12_become_70 : decode cX12_become 70 = .ok (.getfield 13, 3) := by decide +kernel
theorem dX12_become_73 : decode cX12_become 73 = .ok (.iconst 0, 1) := by decide +kernel
theorem dX12_become_74 : decode cX12_become 74 = .ok (.iaload, 1) := by decide +kernel
theorem dX12_become_75 : decode cX12_become 75 = .ok (.if_icmp .ge 29, 3) := by decide +kernel
theorem dX12_become_104 : decode cX12_become 104 = .ok (.aload_n 0, 1) := by decide +kernel
theorem dX12_become_105 : decode cX12_become 105 = .ok (.getfield 13, 3) := by decide +kernel
theorem dX12_become_108 : decode cX12_become 108 = .ok (.iconst 0, 1) := by decide +kernel
theorem dX12_become_109 : decode cX12_become 109 = .ok (.iload_n 2, 1) := by decide +kernel
theorem dX12_become_110 : decode cX12_become 110 = .ok (.iastore, 1) := by decide +kernel
theorem dX12_become_111 : decode cX12_become 111 = .ok (.iconst 0, 1) := by decide +kernel
theorem dX12_become_112 : decode cX12_become 112 = .ok (.istore 4, 2) := by decide +kernel
theorem dX12_become_114 : decode cX12_become 114 = .ok (.iload 4, 2) := by decide +kernel
theorem dX12_become_116 : decode cX12_become 116 = .ok (.iload_n 2, 1) := by decide +kernel
theorem dX12_become_117 : decode cX12_become 117 = .ok (.if_icmp .ge 20, 3) := by decide +kernel
theorem dX12_become_137 : decode cX12_become 137 = .ok (.aload_n 0, 1) := by decide +kernel
theorem dX12_become_138 : decode cX12_become 138 = .ok (.dup, 1) := by decide +kernel
theorem dX12_become_139 : decode cX12_become 139 = .ok (.getfield 148, 3) := by decide +kernel
theorem dX12_become_142 : decode cX12_become 142 = .ok (.iconst 1, 1) := by decide +kernel
theorem dX12_become_143 : decode cX12_become 143 = .ok (.iadd, 1) := by decide +kernel
theorem dX12_become_144 : decode cX12_become 144 = .ok (.putfield 148, 3) := by decide +kernel
theorem dX12_become_147 : decode cX12_become 147 = .ok (.return_, 1) := by decide +kernel
theorem dX12_become_120 : decode cX12_become 120 = .ok (.aload_n 0, 1) := by decide +kernel
theorem dX12_become_121 : decode cX12_become 121 = .ok (.getfield 16, 3) := by decide +kernel
theorem dX12_become_124 : decode cX12_become 124 = .ok (.iload 4, 2) := by decide +kernel
theorem dX12_become_126 : decode cX12_become 126 = .ok (.aload_n 1, 1) := by decide +kernel
theorem dX12_become_127 : decode cX12_become 127 = .ok (.iload 4, 2) := by decide +kernel
theorem dX12_become_129 : decode cX12_become 129 = .ok (.iaload, 1) := by decide +kernel
theorem dX12_become_130 : decode cX12_become 130 = .ok (.iastore, 1) := by decide +kernel
theorem dX12_become_131 : decode cX12_become 131 = .ok (.iinc 4 1, 3) := by decide +kernel
theorem dX12_become_134 : decode cX12_become 134 = .ok (.goto (-20), 3) := by decide +kernel
theorem dX12_become_78 : decode cX12_become 78 = .ok (.aload_n 0, 1) := by decide +kernel
theorem dX12_become_79 : decode cX12_become 79 = .ok (.getfield 16, 3) := by decide +kernel
theorem dX12_become_82 : decode cX12_become 82 = .ok (.sipush 300, 3) := by decide +kernel
theorem dX12_become_85 : decode cX12_become 85 = .ok (.iload_n 3, 1) := by decide +kernel
theorem dX12_become_86 : decode cX12_become 86 = .ok (.imul, 1) := by decide +kernel
theorem dX12_become_87 : decode cX12_become 87 = .ok (.iload 4, 2) := by decide +kernel
theorem dX12_become_89 : decode cX12_become 89 = .ok (.iadd, 1) := by decide +kernel
theorem dX12_become_90 : decode cX12_become 90 = .ok (.aload_n 0, 1) := by decide +kernel
theorem dX12_become_91 : decode cX12_become 91 = .ok (.getfield 16, 3) := by decide +kernel
theorem dX12_become_94 : decode cX12_become 94 = .ok (.iload 4, 2) := by decide +kernel
theorem dX12_become_96 : decode cX12_become 96 = .ok (.iaload, 1) := by decide +kernel
theorem dX12_become_97 : decode cX12_become 97 = .ok (.iastore, 1) := by decide +kernel
theorem dX12_become_98 : decode cX12_become 98 = .ok (.iinc 4 1, 3) := by decide +kernel
theorem dX12_become_101 : decode cX12_become 101 = .ok (.goto (-34), 3) := by decide +kernel
theorem dX12_become_9 : decode cX12_become 9 = .ok (.aload_n 0, 1) := by decide +kernel
theorem dX12_become_10 : decode cX12_become 10 = .ok (.aload_n 0, 1) := by decide +kernel
theorem dX12_become_11 : decode cX12_become 11 = .ok (.getfield 145, 3) := by decide +kernel
theorem dX12_become_14 : decode cX12_become 14 = .ok (.iconst 1, 1) := by decide +kernel
theorem dX12_become_15 : decode cX12_become 15 = .ok (.iadd, 1) := by decide +kernel
theorem dX12_become_16 : decode cX12_become 16 = .ok (.bipush 20, 2) := by decide +kernel
theorem dX12_become_18 : decode cX12_become 18 = .ok (.irem, 1) := by decide +kernel
theorem dX12_become_19 : decode cX12_become 19 = .ok (.putfield 145, 3) := by decide +kernel
theorem dX12_become_22 : decode cX12_become 22 = .ok (.goto 13, 3) := by decide +kernel
theorem dX12_feed_0 : decode cX12_feed 0 = .ok (.aload_n 0, 1) := by decide +kernel
theorem dX12_feed_1 : decode cX12_feed 1 = .ok (.iconst 0, 1) := by decide +kernel
theorem dX12_feed_2 : decode cX12_feed 2 = .ok (.putfield 85, 3) := by decide +kernel
theorem dX12_feed_5 : decode cX12_feed 5 = .ok (.aload_n 0, 1) := by decide +kernel
theorem dX12_feed_6 : decode cX12_feed 6 = .ok (.getfield 151, 3) := by decide +kernel
theorem dX12_feed_9 : decode cX12_feed 9 = .ok (.iconst 5, 1) := by decide +kernel
theorem dX12_feed_10 : decode cX12_feed 10 = .ok (.iadd, 1) := by decide +kernel
theorem dX12_feed_11 : decode cX12_feed 11 = .ok (.sipush 900, 3) := by decide +kernel
theorem dX12_feed_14 : decode cX12_feed 14 = .ok (.if_icmp .le 5, 3) := by decide +kernel
theorem dX12_feed_19 : decode cX12_feed 19 = .ok (.aload_n 0, 1) := by decide +kernel
theorem dX12_feed_20 : decode cX12_feed 20 = .ok (.getfield 9, 3) := by decide +kernel
theorem dX12_feed_23 : decode cX12_feed 23 = .ok (.aload_n 0, 1) := by decide +kernel
theorem dX12_feed_24 : decode cX12_feed 24 = .ok (.getfield 151, 3) := by decide +kernel
theorem dX12_feed_27 : decode cX12_feed 27 = .ok (.iload_n 1, 1) := by decide +kernel
theorem dX12_feed_28 : decode cX12_feed 28 = .ok (.iastore, 1) := by decide +kernel
theorem dX12_feed_29 : decode cX12_feed 29 = .ok (.aload_n 0, 1) := by decide +kernel
theorem dX12_feed_30 : decode cX12_feed 30 = .ok (.getfield 9, 3) := by decide +kernel
theorem dX12_feed_33 : decode cX12_feed 33 = .ok (.aload_n 0, 1) := by decide +kernel
theorem dX12_feed_34 : decode cX12_feed 34 = .ok (.getfield 151, 3) := by decide +kernel
theorem dX12_feed_37 : decode cX12_feed 37 = .ok (.iconst 1, 1) := by decide +kernel
theorem dX12_feed_38 : decode cX12_feed 38 = .ok (.iadd, 1) := by decide +kernel
theorem dX12_feed_39 : decode cX12_feed 39 = .ok (.iload_n 2, 1) := by decide +kernel
theorem dX12_feed_40 : decode cX12_feed 40 = .ok (.iastore, 1) := by decide +kernel
theorem dX12_feed_41 : decode cX12_feed 41 = .ok (.aload_n 0, 1) := by decide +kernel
theorem dX12_feed_42 : decode cX12_feed 42 = .ok (.getfield 9, 3) := by decide +kernel
theorem dX12_feed_45 : decode cX12_feed 45 = .ok (.aload_n 0, 1) := by decide +kernel
theorem dX12_feed_46 : decode cX12_feed 46 = .ok (.getfield 151, 3) := by decide +kernel
theorem dX12_feed_49 : decode cX12_feed 49 = .ok (.iconst 2, 1) := by decide +kernel
theorem dX12_feed_50 : decode cX12_feed 50 = .ok (.iadd, 1) := by decide +kernel
theorem dX12_feed_51 : decode cX12_feed 51 = .ok (.iload_n 3, 1) := by decide +kernel
theorem dX12_feed_52 : decode cX12_feed 52 = .ok (.iastore, 1) := by decide +kernel
theorem dX12_feed_53 : decode cX12_feed 53 = .ok (.aload_n 0, 1) := by decide +kernel
theorem dX12_feed_54 : decode cX12_feed 54 = .ok (.getfield 9, 3) := by decide +kernel
theorem dX12_feed_57 : decode cX12_feed 57 = .ok (.aload_n 0, 1) := by decide +kernel
theorem dX12_feed_58 : decode cX12_feed 58 = .ok (.getfield 151, 3) := by decide +kernel
theorem dX12_feed_61 : decode cX12_feed 61 = .ok (.iconst 3, 1) := by decide +kernel
theorem dX12_feed_62 : decode cX12_feed 62 = .ok (.iadd, 1) := by decide +kernel
theorem dX12_feed_63 : decode cX12_feed 63 = .ok (.iload 4, 2) := by decide +kernel
theorem dX12_feed_65 : decode cX12_feed 65 = .ok (.iastore, 1) := by decide +kernel
theorem dX12_feed_66 : decode cX12_feed 66 = .ok (.aload_n 0, 1) := by decide +kernel
theorem dX12_feed_67 : decode cX12_feed 67 = .ok (.getfield 9, 3) := by decide +kernel
theorem dX12_feed_70 : decode cX12_feed 70 = .ok (.aload_n 0, 1) := by decide +kernel
theorem dX12_feed_71 : decode cX12_feed 71 = .ok (.getfield 151, 3) := by decide +kernel
theorem dX12_feed_74 : decode cX12_feed 74 = .ok (.iconst 4, 1) := by decide +kernel
theorem dX12_feed_75 : decode cX12_feed 75 = .ok (.iadd, 1) := by decide +kernel
theorem dX12_feed_76 : decode cX12_feed 76 = .ok (.iload 5, 2) := by decide +kernel
theorem dX12_feed_78 : decode cX12_feed 78 = .ok (.iastore, 1) := by decide +kernel
theorem dX12_feed_79 : decode cX12_feed 79 = .ok (.aload_n 0, 1) := by decide +kernel
theorem dX12_feed_80 : decode cX12_feed 80 = .ok (.dup, 1) := by decide +kernel
theorem dX12_feed_81 : decode cX12_feed 81 = .ok (.getfield 151, 3) := by decide +kernel
theorem dX12_feed_84 : decode cX12_feed 84 = .ok (.iconst 5, 1) := by decide +kernel
theorem dX12_feed_85 : decode cX12_feed 85 = .ok (.iadd, 1) := by decide +kernel
theorem dX12_feed_86 : decode cX12_feed 86 = .ok (.putfield 151, 3) := by decide +kernel
theorem dX12_feed_89 : decode cX12_feed 89 = .ok (.aload_n 0, 1) := by decide +kernel
theorem dX12_feed_90 : decode cX12_feed 90 = .ok (.getfield 151, 3) := by decide +kernel
theorem dX12_feed_93 : decode cX12_feed 93 = .ok (.ireturn, 1) := by decide +kernel
theorem dX12_feed_17 : decode cX12_feed 17 = .ok (.iconst (-1), 1) := by decide +kernel
theorem dX12_feed_18 : decode cX12_feed 18 = .ok (.ireturn, 1) := by decide +kernel
theorem dX12_end_0 : decode cX12_end 0 = .ok (.aload_n 0, 1) := by decide +kernel
theorem dX12_end_1 : decode cX12_end 1 = .ok (.iconst 0, 1) := by decide +kernel
theorem dX12_end_2 : decode cX12_end 2 = .ok (.putfield 85, 3) := by decide +kernel
theorem dX12_end_5 : decode cX12_end 5 = .ok (.iload_n 1, 1) := by decide +kernel
theorem dX12_end_6 : decode cX12_end 6 = .ok (.ifCond .lt 11, 3) := by decide +kernel
theorem dX12_end_17 : decode cX12_end 17 = .ok (.iconst 0, 1) := by decide +kernel
theorem dX12_end_18 : decode cX12_end 18 = .ok (.ireturn, 1) := by decide +kernel
theorem dX12_end_9 : decode cX12_end 9 = .ok (.iload_n 1, 1) := by decide +kernel
theorem dX12_end_10 : decode cX12_end 10 = .ok (.aload_n 0, 1) := by decide +kernel
theorem dX12_end_11 : decode cX12_end 11 = .ok (.getfield 151, 3) := by decide +kernel
theorem dX12_end_14 : decode cX12_end 14 = .ok (.if_icmp .le 5, 3) := by decide +kernel
theorem dX12_end_19 : decode cX12_end 19 = .ok (.aload_n 0, 1) := by decide +kernel
theorem dX12_end_20 : decode cX12_end 20 = .ok (.iload_n 1, 1) := by decide +kernel
theorem dX12_end_21 : decode cX12_end 21 = .ok (.putfield 151, 3) := by decide +kernel
theorem dX12_end_24 : decode cX12_end 24 = .ok (.iconst 1, 1) := by decide +kernel
theorem dX12_end_25 : decode cX12_end 25 = .ok (.ireturn, 1) := by decide +kernel
theorem dX12_text_0 : decode cX12_text 0 = .ok (.aload_n 0, 1) := by decide +kernel
theorem dX12_text_1 : decode cX12_text 1 = .ok (.iconst 0, 1) := by decide +kernel
theorem dX12_text_2 : decode cX12_text 2 = .ok (.putfield 85, 3) := by decide +kernel
theorem dX12_text_5 : decode cX12_text 5 = .ok (.aload_n 0, 1) := by decide +kernel
theorem dX12_text_6 : decode cX12_text 6 = .ok (.iconst (-1), 1) := by decide +kernel
theorem dX12_text_7 : decode cX12_text 7 = .ok (.putfield 55, 3) := by decide +kernel
theorem dX12_text_10 : decode cX12_text 10 = .ok (.aload_n 0, 1) := by decide +kernel
theorem dX12_text_11 : decode cX12_text 11 = .ok (.getfield 151, 3) := by decide +kernel
theorem dX12_text_14 : decode cX12_text 14 = .ok (.istore_n 1, 1) := by decide +kernel
theorem dX12_text_15 : decode cX12_text 15 = .ok (.aload_n 0, 1) := by decide +kernel
theorem dX12_text_16 : decode cX12_text 16 = .ok (.iconst 0, 1) := by decide +kernel
theorem dX12_text_17 : decode cX12_text 17 = .ok (.putfield 151, 3) := by decide +kernel
theorem dX12_text_20 : decode cX12_text 20 = .ok (.iload_n 1, 1) := by decide +kernel
theorem dX12_text_21 : decode cX12_text 21 = .ok (.sipush 300, 3) := by decide +kernel
theorem dX12_text_24 : decode cX12_text 24 = .ok (.if_icmp .le 5, 3) := by decide +kernel
theorem dX12_text_29 : decode cX12_text 29 = .ok (.iconst 0, 1) := by decide +kernel
theorem dX12_text_30 : decode cX12_text 30 = .ok (.istore_n 2, 1) := by decide +kernel
theorem dX12_text_31 : decode cX12_text 31 = .ok (.iload_n 2, 1) := by decide +kernel
theorem dX12_text_32 : decode cX12_text 32 = .ok (.iload_n 1, 1) := by decide +kernel
theorem dX12_text_33 : decode cX12_text 33 = .ok (.if_icmp .ge 28, 3) := by decide +kernel
theorem dX12_text_61 : decode cX12_text 61 = .ok (.aload_n 0, 1) := by decide +kernel
theorem dX12_text_62 : decode cX12_text 62 = .ok (.aload_n 0, 1) := by decide +kernel
theorem dX12_text_63 : decode cX12_text 63 = .ok (.getfield 9, 3) := by decide +kernel
theorem dX12_text_66 : decode cX12_text 66 = .ok (.iload_n 1, 1) := by decide +kernel
set_option maxRecDepth 20000 in
theorem ggX12_text_X12_become : GoodIn wsX12_text wsX12_become := goodIn_r _ [15, 16, 17, 18, 19, 20, 21, 22, 23, 24, 25, 26, 27, 28, 29, 30, 31, 32, 33, 34, 35, 36, 37, 38, 39, 40, 41, 42, 43, 44, 45, 46, 47, 48, 49, 50, 51, 52, 53, 54, 55, 56, 57, 58, 59, 60] rfl (by decide +kernel)
set_option maxRecDepth 20000 in
theorem gX12_text_X12_become : GoodIn wsX12_text (wsV RX12 154 RX12 yX12_become wsX12_become) := goodIn_app (goodIn_r _ [12, 13, 14, 7] rfl (by decide +kernel)) ggX12_text_X12_become
theorem dX12_text_67 : decode cX12_text 67 = .ok (.invokevirtual 154, 3) := by decide +kernel
theorem dX12_text_70 : decode cX12_text 70 = .ok (.iload_n 1, 1) := by decide +kernel
theorem dX12_text_71 : decode cX12_text 71 = .ok (.ireturn, 1) := by decide +kernel
theorem dX12_text_36 : decode cX12_text 36 = .ok (.aload_n 0, 1) := by decide +kernel
theorem dX12_text_37 : decode cX12_text 37 = .ok (.getfield 9, 3) := by decide +kernel
theorem dX12_text_40 : decode cX12_text 40 = .ok (.iload_n 2, 1) := by decide +kernel
theorem dX12_text_41 : decode cX12_text 41 = .ok (.iaload, 1) := by decide +kernel
set_option maxRecDepth 20000 in
theorem ggX12_text_X12_isLetter : GoodIn wsX12_text wsX12_isLetter := goodIn_r _ [8, 9, 10, 11] rfl (by decide +kernel)
set_option maxRecDepth 20000 in
theorem gX12_text_X12_isLetter : GoodIn wsX12_text (va_wsS RX12 116 yX12_isLetter wsX12_isLetter) := goodIn_app (goodIn_r _ [5, 6, 7] rfl (by decide +kernel)) ggX12_text_X12_isLetter
theorem dX12_text_42 : decode cX12_text 42 = .ok (.invokestatic 116, 3) := by decide +kernel
theorem dX12_text_45 : decode cX12_text 45 = .ok (.ifCond .ne 10, 3) := by decide +kernel
theorem dX12_text_55 : decode cX12_text 55 = .ok (.iinc 2 1, 3) := by decide +kernel
theorem dX12_text_58 : decode cX12_text 58 = .ok (.goto (-27), 3) := by decide +kernel
theorem dX12_text_48 : decode cX12_text 48 = .ok (.aload_n 0, 1) := by decide +kernel
theorem dX12_text_49 : decode cX12_text 49 = .ok (.iload_n 2, 1) := by decide +kernel
theorem dX12_text_50 : decode cX12_text 50 = .ok (.putfield 55, 3) := by decide +kernel
theorem dX12_text_53 : decode cX12_text 53 = .ok (.iconst (-1), 1) := by decide +kernel
theorem dX12_text_54 : decode cX12_text 54 = .ok (.ireturn, 1) := by decide +kernel
theorem dX12_text_27 : decode cX12_text 27 = .ok (.iconst (-1), 1) := by decide +kernel
theorem dX12_text_28 : decode cX12_text 28 = .ok (.ireturn, 1) := by decide +kernel
theorem dX12_read__0 : decode cX12_read_ 0 = .ok (.aload_n 0, 1) := by decide +kernel
theorem dX12_read__1 : decode cX12_read_ 1 = .ok (.iconst 0, 1) := by decide +kernel
theorem dX12_read__2 : decode cX12_read_ 2 = .ok (.putfield 85, 3) := by decide +kernel
theorem dX12_read__5 : decode cX12_read_ 5 = .ok (.aload_n 0, 1) := by decide +kernel
theorem dX12_read__6 : decode cX12_read_ 6 = .ok (.iconst (-1), 1) := by decide +kernel
theorem dX12_read__7 : decode cX12_read_ 7 = .ok (.putfield 55, 3) := by decide +kernel
theorem dX12_read__10 : decode cX12_read_ 10 = .ok (.aload_n 0, 1) := by decide +kernel
theorem dX12_read__11 : decode cX12_read_ 11 = .ok (.getfield 151, 3) := by decide +kernel
theorem dX12_read__14 : decode cX12_read_ 14 = .ok (.istore_n 2, 1) := by decide +kernel
theorem dX12_read__15 : decode cX12_read_ 15 = .ok (.aload_n 0, 1) := by decide +kernel
theorem dX12_read__16 : decode cX12_read_ 16 = .ok (.iconst 0, 1) := by decide +kernel
theorem dX12_read__17 : decode cX12_read_ 17 = .ok (.putfield 151, 3) := by decide +kernel
theorem dX12_read__20 : decode cX12_read_ 20 = .ok (.iload_n 1, 1) := by decide +kernel
set_option maxRecDepth 20000 in
theorem ggX12_read__X12_isCode : GoodIn wsX12_read_ wsX12_isCode := goodIn_r _ [13] rfl (by decide +kernel)
set_option maxRecDepth 20000 in
theorem gX12_read__X12_isCode : GoodIn wsX12_read_ (va_wsS RX12 158 yX12_isCode wsX12_isCode) := goodIn_app (goodIn_r _ [10, 11, 12] rfl (by decide +kernel)) ggX12_read__X12_isCode
theorem dX12_read__21 : decode cX12_read_ 21 = .ok (.invokestatic 158, 3) := by decide +kernel
theorem dX12_read__24 : decode cX12_read_ 24 = .ok (.ifCond .ne 5, 3) := by decide +kernel
theorem dX12_read__29 : decode cX12_read_ 29 = .ok (.iconst 0, 1) := by decide +kernel
theorem dX12_read__30 : decode cX12_read_ 30 = .ok (.istore_n 3, 1) := by decide +kernel
theorem dX12_read__31 : decode cX12_read_ 31 = .ok (.iload_n 3, 1) := by decide +kernel
theorem dX12_read__32 : decode cX12_read_ 32 = .ok (.iload_n 2, 1) := by decide +kernel
theorem dX12_read__33 : decode cX12_read_ 33 = .ok (.if_icmp .ge 49, 3) := by decide +kernel
theorem dX12_read__82 : decode cX12_read_ 82 = .ok (.aload_n 0, 1) := by decide +kernel
theorem dX12_read__83 : decode cX12_read_ 83 = .ok (.iload_n 2, 1) := by decide +kernel
theorem dX12_read__84 : decode cX12_read_ 84 = .ok (.putfield 91, 3) := by decide +kernel
theorem dX12_read__87 : decode cX12_read_ 87 = .ok (.aload_n 0, 1) := by decide +kernel
theorem dX12_read__88 : decode cX12_read_ 88 = .ok (.iload_n 1, 1) := by decide +kernel
theorem dX12_read__89 : decode cX12_read_ 89 = .ok (.iconst 0, 1) := by decide +kernel
set_option maxRecDepth 20000 in
theorem ggX12_read__X12_read : GoodIn wsX12_read_ wsX12_read := goodIn_r _ [17, 8, 6, 7, 9, 18, 19, 20, 21, 22, 12, 23, 5, 24, 25, 26, 27, 28, 29, 30, 31, 32, 33, 34, 35, 36, 37, 47, 48, 49, 50, 51, 52, 53, 54, 55, 56, 57, 58, 59, 60, 61, 62, 63, 64, 65, 66, 67, 68, 69, 70, 71, 72, 73, 74, 75, 76, 77, 78, 79, 80, 81, 82, 83, 84, 85, 86] rfl (by decide +kernel)
set_option maxRecDepth 20000 in
theorem gX12_read__X12_read : GoodIn wsX12_read_ (wsV RX12 131 RX12 yX12_read wsX12_read) := goodIn_app (goodIn_r _ [14, 15, 16, 12] rfl (by decide +kernel)) ggX12_read__X12_read
theorem dX12_read__90 : decode cX12_read_ 90 = .ok (.invokevirtual 131, 3) := by decide +kernel
theorem dX12_read__93 : decode cX12_read_ 93 = .ok (.ifCond .ne 13, 3) := by decide +kernel
theorem dX12_read__106 : decode cX12_read_ 106 = .ok (.aload_n 0, 1) := by decide +kernel
theorem dX12_read__107 : decode cX12_read_ 107 = .ok (.getfield 119, 3) := by decide +kernel
theorem dX12_read__110 : decode cX12_read_ 110 = .ok (.sipush 300, 3) := by decide +kernel
theorem dX12_read__113 : decode cX12_read_ 113 = .ok (.if_icmp .le 5, 3) := by decide +kernel
theorem dX12_read__118 : decode cX12_read_ 118 = .ok (.aload_n 0, 1) := by decide +kernel
theorem dX12_read__119 : decode cX12_read_ 119 = .ok (.aload_n 0, 1) := by decide +kernel
theorem dX12_read__120 : decode cX12_read_ 120 = .ok (.getfield 61, 3) := by decide +kernel
theorem dX12_read__123 : decode cX12_read_ 123 = .ok (.aload_n 0, 1) := by decide +kernel
theorem dX12_read__124 : decode cX12_read_ 124 = .ok (.getfield 119, 3) := by decide +kernel
set_option maxRecDepth 20000 in
theorem ggX12_read__X12_become : GoodIn wsX12_read_ wsX12_become := goodIn_r _ [41, 42, 43, 44, 45, 46, 47, 48, 49, 50, 51, 52, 53, 54, 55, 56, 57, 58, 59, 60, 61, 62, 63, 64, 65, 66, 67, 68, 69, 70, 71, 72, 73, 74, 75, 76, 77, 78, 79, 80, 81, 82, 83, 84, 85, 86] rfl (by decide +kernel)
set_option maxRecDepth 20000 in
theorem gX12_read__X12_become : GoodIn wsX12_read_ (wsV RX12 154 RX12 yX12_become wsX12_become) := goodIn_app (goodIn_r _ [38, 39, 40, 12] rfl (by decide +kernel)) ggX12_read__X12_become
theorem dX12_read__127 : decode cX12_read_ 127 = .ok (.invokevirtual 154, 3) := by decide +kernel
theorem dX12_read__130 : decode cX12_read_ 130 = .ok (.aload_n 0, 1) := by decide +kernel
theorem dX12_read__131 : decode cX12_read_ 131 = .ok (.getfield 119, 3) := by decide +kernel
theorem dX12_read__134 : decode cX12_read_ 134 = .ok (.ireturn, 1) := by decide +kernel
theorem dX12_read__116 : decode cX12_read_ 116 = .ok (.iconst (-1), 1) := by decide +kernel
theorem dX12_read__117 : decode cX12_read_ 117 = .ok (.ireturn, 1) := by decide +kernel
theorem dX12_read__96 : decode cX12_read_ 96 = .ok (.aload_n 0, 1) := by decide +kernel
theorem dX12_read__97 : decode cX12_read_ 97 = .ok (.aload_n 0, 1) := by decide +kernel
theorem dX12_read__98 : decode cX12_read_ 98 = .ok (.getfield 102, 3) := by decide +kernel
theorem dX12_read__101 : decode cX12_read_ 101 = .ok (.putfield 55, 3) := by decide +kernel
theorem dX12_read__104 : decode cX12_read_ 104 = .ok (.iconst (-1), 1) := by decide +kernel
theorem dX12_read__105 : decode cX12_read_ 105 = .ok (.ireturn, 1) := by decide +kernel
theorem dX12_read__36 : decode cX12_read_ 36 = .ok (.aload_n 0, 1) := by decide +kernel
theorem dX12_read__37 : decode cX12_read_ 37 = .ok (.getfield 9, 3) := by decide +kernel
theorem dX12_read__40 : decode cX12_read_ 40 = .ok (.iload_n 3, 1) := by decide +kernel
theorem dX12_read__41 : decode cX12_read_ 41 = .ok (.iaload, 1) := by decide +kernel
theorem dX12_read__42 : decode cX12_read_ 42 = .ok (.ifCond .lt 15, 3) := by decide +kernel
theorem dX12_read__57 : decode cX12_read_ 57 = .ok (.aload_n 0, 1) := by decide +kernel
theorem dX12_read__58 : decode cX12_read_ 58 = .ok (.iload_n 3, 1) := by decide +kernel
theorem dX12_read__59 : decode cX12_read_ 59 = .ok (.putfield 55, 3) := by decide +kernel
theorem dX12_read__62 : decode cX12_read_ 62 = .ok (.iconst (-1), 1) := by decide +kernel
theorem dX12_read__63 : decode cX12_read_ 63 = .ok (.ireturn, 1) := by decide +kernel
theorem dX12_read__45 : decode cX12_read_ 45 = .ok (.aload_n 0, 1) := by decide +kernel
theorem dX12_read__46 : decode cX12_read_ 46 = .ok (.getfield 9, 3) := by decide +kernel
theorem dX12_read__49 : decode cX12_read_ 49 = .ok (.iload_n 3, 1) := by decide +kernel
theorem dX12_read__50 : decode cX12_read_ 50 = .ok (.iaload, 1) := by decide +kernel
theorem dX12_read__51 : decode cX12_read_ 51 = .ok (.sipush 255, 3) := by decide +kernel
theorem dX12_read__54 : decode cX12_read_ 54 = .ok (.if_icmp .le 10, 3) := by decide +kernel
theorem dX12_read__64 : decode cX12_read_ 64 = .ok (.aload_n 0, 1) := by decide +kernel
theorem dX12_read__65 : decode cX12_read_ 65 = .ok (.getfield 58, 3) := by decide +kernel
theorem dX12_read__68 : decode cX12_read_ 68 = .ok (.iload_n 3, 1) := by decide +kernel
theorem dX12_read__69 : decode cX12_read_ 69 = .ok (.aload_n 0, 1) := by decide +kernel
theorem dX12_read__70 : decode cX12_read_ 70 = .ok (.getfield 9, 3) := by decide +kernel
theorem dX12_read__73 : decode cX12_read_ 73 = .ok (.iload_n 3, 1) := by decide +kernel
theorem dX12_read__74 : decode cX12_read_ 74 = .ok (.iaload, 1) := by decide +kernel
theorem dX12_read__75 : decode cX12_read_ 75 = .ok (.iastore, 1) := by decide +kernel
theorem dX12_read__76 : decode cX12_read_ 76 = .ok (.iinc 3 1, 3) := by decide +kernel
theorem dX12_read__79 : decode cX12_read_ 79 = .ok (.goto (-48), 3) := by decide +kernel
theorem dX12_read__27 : decode cX12_read_ 27 = .ok (.iconst (-1), 1) := by decide +kernel
theorem dX12_read__28 : decode cX12_read_ 28 = .ok (.ireturn, 1) := by decide +kernel
theorem dX12_span_0 : decode cX12_span 0 = .ok (.aload_n 0, 1) := by decide +kernel
theorem dX12_span_1 : decode cX12_span 1 = .ok (.iconst 0, 1) := by decide +kernel
theorem dX12_span_2 : decode cX12_span 2 = .ok (.putfield 85, 3) := by decide +kernel
theorem dX12_span_5 : decode cX12_span 5 = .ok (.aload_n 0, 1) := by decide +kernel
theorem dX12_span_6 : decode cX12_span 6 = .ok (.iconst (-1), 1) := by decide +kernel
theorem dX12_span_7 : decode cX12_span 7 = .ok (.putfield 55, 3) := by decide +kernel
theorem dX12_span_10 : decode cX12_span 10 = .ok (.iload_n 1, 1) := by decide +kernel
theorem dX12_span_11 : decode cX12_span 11 = .ok (.iconst 4, 1) := by decide +kernel
theorem dX12_span_12 : decode cX12_span 12 = .ok (.if_icmp .lt 59, 3) := by decide +kernel
theorem dX12_span_71 : decode cX12_span 71 = .ok (.iconst (-1), 1) := by decide +kernel
theorem dX12_span_72 : decode cX12_span 72 = .ok (.ireturn, 1) := by decide +kernel
theorem dX12_span_15 : decode cX12_span 15 = .ok (.iload_n 1, 1) := by decide +kernel
theorem dX12_span_16 : decode cX12_span 16 = .ok (.iconst 5, 1) := by decide +kernel
theorem dX12_span_17 : decode cX12_span 17 = .ok (.if_icmp .gt 54, 3) := by decide +kernel
theorem dX12_span_20 : decode cX12_span 20 = .ok (.iload_n 2, 1) := by decide +kernel
theorem dX12_span_21 : decode cX12_span 21 = .ok (.ifCond .lt 50, 3) := by decide +kernel
theorem dX12_span_24 : decode cX12_span 24 = .ok (.iload_n 2, 1) := by decide +kernel
theorem dX12_span_25 : decode cX12_span 25 = .ok (.sipush 255, 3) := by decide +kernel
theorem dX12_span_28 : decode cX12_span 28 = .ok (.if_icmp .gt 43, 3) := by decide +kernel
theorem dX12_span_31 : decode cX12_span 31 = .ok (.iload_n 3, 1) := by decide +kernel
theorem dX12_span_32 : decode cX12_span 32 = .ok (.iconst 1, 1) := by decide +kernel
theorem dX12_span_33 : decode cX12_span 33 = .ok (.if_icmp .lt 38, 3) := by decide +kernel
theorem dX12_span_36 : decode cX12_span 36 = .ok (.iload_n 3, 1) := by decide +kernel
theorem dX12_span_37 : decode cX12_span 37 = .ok (.sipush 256, 3) := by decide +kernel
theorem dX12_span_40 : decode cX12_span 40 = .ok (.iload_n 2, 1) := by decide +kernel
theorem dX12_span_41 : decode cX12_span 41 = .ok (.isub, 1) := by decide +kernel
theorem dX12_span_42 : decode cX12_span 42 = .ok (.if_icmp .gt 29, 3) := by decide +kernel
theorem dX12_span_45 : decode cX12_span 45 = .ok (.iload 5, 2) := by decide +kernel
theorem dX12_span_47 : decode cX12_span 47 = .ok (.sipush (-255), 3) := by decide +kernel
theorem dX12_span_50 : decode cX12_span 50 = .ok (.if_icmp .lt 21, 3) := by decide +kernel
theorem dX12_span_53 : decode cX12_span 53 = .ok (.iload 5, 2) := by decide +kernel
theorem dX12_span_55 : decode cX12_span 55 = .ok (.sipush 255, 3) := by decide +kernel
theorem dX12_span_58 : decode cX12_span 58 = .ok (.if_icmp .gt 13, 3) := by decide +kernel
theorem dX12_span_61 : decode cX12_span 61 = .ok (.iload_n 3, 1) := by decide +kernel
theorem dX12_span_62 : decode cX12_span 62 = .ok (.iconst 1, 1) := by decide +kernel
theorem dX12_span_63 : decode cX12_span 63 = .ok (.if_icmp .le 10, 3) := by decide +kernel
theorem dX12_span_73 : decode cX12_span 73 = .ok (.iload_n 1, 1) := by decide +kernel
theorem dX12_span_74 : decode cX12_span 74 = .ok (.iconst 4, 1) := by decide +kernel
theorem dX12_span_75 : decode cX12_span 75 = .ok (.isub, 1) := by decide +kernel
theorem dX12_span_76 : decode cX12_span 76 = .ok (.istore 6, 2) := by decide +kernel
theorem dX12_span_78 : decode cX12_span 78 = .ok (.iload 4, 2) := by decide +kernel
set_option maxRecDepth 20000 in
theorem ggX12_span_X12_isLetter : GoodIn wsX12_span wsX12_isLetter := goodIn_r _ [11, 5, 12, 13] rfl (by decide +kernel)
set_option maxRecDepth 20000 in
theorem gX12_span_X12_isLetter : GoodIn wsX12_span (va_wsS RX12 116 yX12_isLetter wsX12_isLetter) := goodIn_app (goodIn_r _ [8, 9, 10] rfl (by decide +kernel)) ggX12_span_X12_isLetter
theorem dX12_span_80 : decode cX12_span 80 = .ok (.invokestatic 116, 3) := by decide +kernel
theorem dX12_span_83 : decode cX12_span 83 = .ok (.ifCond .ne 5, 3) := by decide +kernel
theorem dX12_span_88 : decode cX12_span 88 = .ok (.iconst 0, 1) := by decide +kernel
theorem dX12_span_89 : decode cX12_span 89 = .ok (.istore 7, 2) := by decide +kernel
theorem dX12_span_91 : decode cX12_span 91 = .ok (.iload 7, 2) := by decide +kernel
theorem dX12_span_93 : decode cX12_span 93 = .ok (.iload_n 3, 1) := by decide +kernel
theorem dX12_span_94 : decode cX12_span 94 = .ok (.if_icmp .ge 66, 3) := by decide +kernel
theorem dX12_span_160 : decode cX12_span 160 = .ok (.iconst 0, 1) := by decide +kernel
theorem dX12_span_161 : decode cX12_span 161 = .ok (.istore 7, 2) := by decide +kernel
theorem dX12_span_163 : decode cX12_span 163 = .ok (.iload 7, 2) := by decide +kernel
theorem dX12_span_165 : decode cX12_span 165 = .ok (.iload_n 3, 1) := by decide +kernel
theorem dX12_span_166 : decode cX12_span 166 = .ok (.if_icmp .ge 57, 3) := by decide +kernel
theorem dX12_span_223 : decode cX12_span 223 = .ok (.aload_n 0, 1) := by decide +kernel
theorem dX12_span_224 : decode cX12_span 224 = .ok (.getfield 27, 3) := by decide +kernel
theorem dX12_span_227 : decode cX12_span 227 = .ok (.iload 6, 2) := by decide +kernel
theorem dX12_span_229 : decode cX12_span 229 = .ok (.dup2, 1) := by decide +kernel
theorem dX12_span_230 : decode cX12_span 230 = .ok (.iaload, 1) := by decide +kernel
theorem dX12_span_231 : decode cX12_span 231 = .ok (.iload_n 3, 1) := by decide +kernel
theorem dX12_span_232 : decode cX12_span 232 = .ok (.iadd, 1) := by decide +kernel
theorem dX12_span_233 : decode cX12_span 233 = .ok (.iastore, 1) := by decide +kernel
theorem dX12_span_234 : decode cX12_span 234 = .ok (.aload_n 0, 1) := by decide +kernel
theorem dX12_span_235 : decode cX12_span 235 = .ok (.dup, 1) := by decide +kernel
theorem dX12_span_236 : decode cX12_span 236 = .ok (.getfield 148, 3) := by decide +kernel
theorem dX12_span_239 : decode cX12_span 239 = .ok (.iconst 1, 1) := by decide +kernel
theorem dX12_span_240 : decode cX12_span 240 = .ok (.iadd, 1) := by decide +kernel
theorem dX12_span_241 : decode cX12_span 241 = .ok (.putfield 148, 3) := by decide +kernel
theorem dX12_span_244 : decode cX12_span 244 = .ok (.aload_n 0, 1) := by decide +kernel
theorem dX12_span_245 : decode cX12_span 245 = .ok (.getfield 27, 3) := by decide +kernel
theorem dX12_span_248 : decode cX12_span 248 = .ok (.iload 6, 2) := by decide +kernel
theorem dX12_span_250 : decode cX12_span 250 = .ok (.iaload, 1) := by decide +kernel
theorem dX12_span_251 : decode cX12_span 251 = .ok (.ireturn, 1) := by decide +kernel
theorem dX12_span_169 : decode cX12_span 169 = .ok (.aload_n 0, 1) := by decide +kernel
theorem dX12_span_170 : decode cX12_span 170 = .ok (.getfield 19, 3) := by decide +kernel
theorem dX12_span_173 : decode cX12_span 173 = .ok (.sipush 256, 3) := by decide +kernel
theorem dX12_span_176 : decode cX12_span 176 = .ok (.iload 6, 2) := by decide +kernel
theorem dX12_span_178 : decode cX12_span 178 = .ok (.imul, 1) := by decide +kernel
theorem dX12_span_179 : decode cX12_span 179 = .ok (.iload_n 2, 1) := by decide +kernel
theorem dX12_span_180 : decode cX12_span 180 = .ok (.iadd, 1) := by decide +kernel
theorem dX12_span_181 : decode cX12_span 181 = .ok (.iload 7, 2) := by decide +kernel
theorem dX12_span_183 : decode cX12_span 183 = .ok (.iadd, 1) := by decide +kernel
theorem dX12_span_184 : decode cX12_span 184 = .ok (.iload 4, 2) := by decide +kernel
theorem dX12_span_186 : decode cX12_span 186 = .ok (.iload 7, 2) := by decide +kernel
theorem dX12_span_188 : decode cX12_span 188 = .ok (.iload 5, 2) := by decide +kernel
theorem dX12_span_190 : decode cX12_span 190 = .ok (.imul, 1) := by decide +kernel
theorem dX12_span_191 : decode cX12_span 191 = .ok (.iadd, 1) := by decide +kernel
theorem dX12_span_192 : decode cX12_span 192 = .ok (.iastore, 1) := by decide +kernel
theorem dX12_span_193 : decode cX12_span 193 = .ok (.aload_n 0, 1) := by decide +kernel
theorem dX12_span_194 : decode cX12_span 194 = .ok (.getfield 23, 3) := by decide +kernel
theorem dX12_span_197 : decode cX12_span 197 = .ok (.ldc 88, 2) := by decide +kernel
theorem dX12_span_199 : decode cX12_span 199 = .ok (.iload 6, 2) := by decide +kernel
theorem dX12_span_201 : decode cX12_span 201 = .ok (.imul, 1) := by decide +kernel
theorem dX12_span_202 : decode cX12_span 202 = .ok (.iload 4, 2) := by decide +kernel
theorem dX12_span_204 : decode cX12_span 204 = .ok (.iadd, 1) := by decide +kernel
theorem dX12_span_205 : decode cX12_span 205 = .ok (.iload 7, 2) := by decide +kernel
theorem dX12_span_207 : decode cX12_span 207 = .ok (.iload 5, 2) := by decide +kernel
theorem dX12_span_209 : decode cX12_span 209 = .ok (.imul, 1) := by decide +kernel
theorem dX12_span_210 : decode cX12_span 210 = .ok (.iadd, 1) := by decide +kernel
theorem dX12_span_211 : decode cX12_span 211 = .ok (.iload_n 2, 1) := by decide +kernel
theorem dX12_span_212 : decode cX12_span 212 = .ok (.iload 7, 2) := by decide +kernel
theorem dX12_span_214 : decode cX12_span 214 = .ok (.iadd, 1) := by decide +kernel
theorem dX12_span_215 : decode cX12_span 215 = .ok (.i2s, 1) := by decide +kernel
theorem dX12_span_216 : decode cX12_span 216 = .ok (.sastore, 1) := by decide +kernel
theorem dX12_span_217 : decode cX12_span 217 = .ok (.iinc 7 1, 3) := by decide +kernel
theorem dX12_span_220 : decode cX12_span 220 = .ok (.goto (-57), 3) := by decide +kernel
theorem dX12_span_97 : decode cX12_span 97 = .ok (.iload 4, 2) := by decide +kernel
theorem dX12_span_99 : decode cX12_span 99 = .ok (.iload 7, 2) := by decide +kernel
theorem dX12_span_101 : decode cX12_span 101 = .ok (.iload 5, 2) := by decide +kernel
theorem dX12_span_103 : decode cX12_span 103 = .ok (.imul, 1) := by decide +kernel
theorem dX12_span_104 : decode cX12_span 104 = .ok (.iadd, 1) := by decide +kernel
theorem dX12_span_105 : decode cX12_span 105 = .ok (.istore 8, 2) := by decide +kernel
theorem dX12_span_107 : decode cX12_span 107 = .ok (.iload 8, 2) := by decide +kernel
theorem dX12_span_109 : decode cX12_span 109 = .ok (.invokestatic 116, 3) := by decide +kernel
theorem dX12_span_112 : decode cX12_span 112 = .ok (.ifCond .eq 40, 3) := by decide +kernel
theorem dX12_span_152 : decode cX12_span 152 = .ok (.iconst (-1), 1) := by decide +kernel
theorem dX12_span_153 : decode cX12_span 153 = .ok (.ireturn, 1) := by decide +kernel
theorem dX12_span_115 : decode cX12_span 115 = .ok (.aload_n 0, 1) := by decide +kernel
theorem dX12_span_116 : decode cX12_span 116 = .ok (.getfield 19, 3) := by decide +kernel
theorem dX12_span_119 : decode cX12_span 119 = .ok (.sipush 256, 3) := by decide +kernel
theorem dX12_span_122 : decode cX12_span 122 = .ok (.iload 6, 2) := by decide +kernel
theorem dX12_span_124 : decode cX12_span 124 = .ok (.imul, 1) := by decide +kernel
theorem dX12_span_125 : decode cX12_span 125 = .ok (.iload_n 2, 1) := by decide +kernel
theorem dX12_span_126 : decode cX12_span 126 = .ok (.iadd, 1) := by decide +kernel
theorem dX12_span_127 : decode cX12_span 127 = .ok (.iload 7, 2) := by decide +kernel
theorem dX12_span_129 : decode cX12_span 129 = .ok (.iadd, 1) := by decide +kernel
theorem dX12_span_130 : decode cX12_span 130 = .ok (.iaload, 1) := by decide +kernel
theorem dX12_span_131 : decode cX12_span 131 = .ok (.iconst (-1), 1) := by decide +kernel
theorem dX12_span_132 : decode cX12_span 132 = .ok (.if_icmp .ne 20, 3) := by decide +kernel
theorem dX12_span_135 : decode cX12_span 135 = .ok (.aload_n 0, 1) := by decide +kernel
theorem dX12_span_136 : decode cX12_span 136 = .ok (.getfield 23, 3) := by decide +kernel
theorem dX12_span_139 : decode cX12_span 139 = .ok (.ldc 88, 2) := by decide +kernel
theorem dX12_span_141 : decode cX12_span 141 = .ok (.iload 6, 2) := by decide +kernel
theorem dX12_span_143 : decode cX12_span 143 = .ok (.imul, 1) := by decide +kernel
theorem dX12_span_144 : decode cX12_span 144 = .ok (.iload 8, 2) := by decide +kernel
theorem dX12_span_146 : decode cX12_span 146 = .ok (.iadd, 1) := by decide +kernel
theorem dX12_span_147 : decode cX12_span 147 = .ok (.saload, 1) := by decide +kernel
theorem dX12_span_148 : decode cX12_span 148 = .ok (.iconst (-1), 1) := by decide +kernel
theorem dX12_span_149 : decode cX12_span 149 = .ok (.if_icmp .eq 5, 3) := by decide +kernel
theorem dX12_span_154 : decode cX12_span 154 = .ok (.iinc 7 1, 3) := by decide +kernel
theorem dX12_span_157 : decode cX12_span 157 = .ok (.goto (-66), 3) := by decide +kernel
theorem dX12_span_86 : decode cX12_span 86 = .ok (.iconst (-1), 1) := by decide +kernel
theorem dX12_span_87 : decode cX12_span 87 = .ok (.ireturn, 1) := by decide +kernel
theorem dX12_span_66 : decode cX12_span 66 = .ok (.iload 5, 2) := by decide +kernel
theorem dX12_span_68 : decode cX12_span 68 = .ok (.ifCond .ne 5, 3) := by decide +kernel
theorem dX12_blank_0 : decode cX12_blank 0 = .ok (.aload_n 0, 1) := by decide +kernel
theorem dX12_blank_1 : decode cX12_blank 1 = .ok (.iconst 0, 1) := by decide +kernel
theorem dX12_blank_2 : decode cX12_blank 2 = .ok (.putfield 85, 3) := by decide +kernel
theorem dX12_blank_5 : decode cX12_blank 5 = .ok (.iload_n 1, 1) := by decide +kernel
theorem dX12_blank_6 : decode cX12_blank 6 = .ok (.iconst 4, 1) := by decide +kernel
theorem dX12_blank_7 : decode cX12_blank 7 = .ok (.if_icmp .lt 8, 3) := by decide +kernel
theorem dX12_blank_15 : decode cX12_blank 15 = .ok (.iconst 0, 1) := by decide +kernel
theorem dX12_blank_16 : decode cX12_blank 16 = .ok (.ireturn, 1) := by decide +kernel
theorem dX12_blank_10 : decode cX12_blank 10 = .ok (.iload_n 1, 1) := by decide +kernel
theorem dX12_blank_11 : decode cX12_blank 11 = .ok (.iconst 5, 1) := by decide +kernel
theorem dX12_blank_12 : decode cX12_blank 12 = .ok (.if_icmp .le 5, 3) := by decide +kernel
theorem dX12_blank_17 : decode cX12_blank 17 = .ok (.iload_n 1, 1) := by decide +kernel
theorem dX12_blank_18 : decode cX12_blank 18 = .ok (.iconst 4, 1) := by decide +kernel
theorem dX12_blank_19 : decode cX12_blank 19 = .ok (.isub, 1) := by decide +kernel
theorem dX12_blank_20 : decode cX12_blank 20 = .ok (.istore_n 2, 1) := by decide +kernel
theorem dX12_blank_21 : decode cX12_blank 21 = .ok (.iconst 0, 1) := by decide +kernel
theorem dX12_blank_22 : decode cX12_blank 22 = .ok (.istore_n 3, 1) := by decide +kernel
theorem dX12_blank_23 : decode cX12_blank 23 = .ok (.iload_n 3, 1) := by decide +kernel
theorem dX12_blank_24 : decode cX12_blank 24 = .ok (.sipush 256, 3) := by decide +kernel
theorem dX12_blank_27 : decode cX12_blank 27 = .ok (.if_icmp .ge 22, 3) := by decide +kernel
theorem dX12_blank_49 : decode cX12_blank 49 = .ok (.iconst 0, 1) := by decide +kernel
theorem dX12_blank_50 : decode cX12_blank 50 = .ok (.istore_n 3, 1) := by decide +kernel
theorem dX12_blank_51 : decode cX12_blank 51 = .ok (.iload_n 3, 1) := by decide +kernel
theorem dX12_blank_52 : decode cX12_blank 52 = .ok (.ldc 88, 2) := by decide +kernel
theorem dX12_blank_54 : decode cX12_blank 54 = .ok (.if_icmp .ge 21, 3) := by decide +kernel
theorem dX12_blank_75 : decode cX12_blank 75 = .ok (.aload_n 0, 1) := by decide +kernel
theorem dX12_blank_76 : decode cX12_blank 76 = .ok (.getfield 27, 3) := by decide +kernel
theorem dX12_blank_79 : decode cX12_blank 79 = .ok (.iload_n 2, 1) := by decide +kernel
theorem dX12_blank_80 : decode cX12_blank 80 = .ok (.iconst 0, 1) := by decide +kernel
theorem dX12_blank_81 : decode cX12_blank 81 = .ok (.iastore, 1) := by decide +kernel
theorem dX12_blank_82 : decode cX12_blank 82 = .ok (.aload_n 0, 1) := by decide +kernel
theorem dX12_blank_83 : decode cX12_blank 83 = .ok (.dup, 1) := by decide +kernel
theorem dX12_blank_84 : decode cX12_blank 84 = .ok (.getfield 148, 3) := by decide +kernel
theorem dX12_blank_87 : decode cX12_blank 87 = .ok (.iconst 1, 1) := by decide +kernel
theorem dX12_blank_88 : decode cX12_blank 88 = .ok (.iadd, 1) := by decide +kernel
theorem dX12_blank_89 : decode cX12_blank 89 = .ok (.putfield 148, 3) := by decide +kernel
theorem dX12_blank_92 : decode cX12_blank 92 = .ok (.iconst 1, 1) := by decide +kernel
theorem dX12_blank_93 : decode cX12_blank 93 = .ok (.ireturn, 1) := by decide +kernel
theorem dX12_blank_57 : decode cX12_blank 57 = .ok (.aload_n 0, 1) := by decide +kernel
theorem dX12_blank_58 : decode cX12_blank 58 = .ok (.getfield 23, 3) := by decide +kernel
theorem dX12_blank_61 : decode cX12_blank 61 = .ok (.ldc 88, 2) := by decide +kernel
theorem dX12_blank_63 : decode cX12_blank 63 = .ok (.iload_n 2, 1) := by decide +kernel
theorem dX12_blank_64 : decode cX12_blank 64 = .ok (.imul, 1) := by decide +kernel
theorem dX12_blank_65 : decode cX12_blank 65 = .ok (.iload_n 3, 1) := by decide +kernel
theorem dX12_blank_66 : decode cX12_blank 66 = .ok (.iadd, 1) := by decide +kernel
theorem dX12_blank_67 : decode cX12_blank 67 = .ok (.iconst (-1), 1) := by decide +kernel
theorem dX12_blank_68 : decode cX12_blank 68 = .ok (.sastore, 1) := by decide +kernel
theorem dX12_blank_69 : decode cX12_blank 69 = .ok (.iinc 3 1, 3) := by decide +kernel
theorem dX12_blank_72 : decode cX12_blank 72 = .ok (.goto (-21), 3) := by decide +kernel
theorem dX12_blank_30 : decode cX12_blank 30 = .ok (.aload_n 0, 1) := by decide +kernel
theorem dX12_blank_31 : decode cX12_blank 31 = .ok (.getfield 19, 3) := by decide +kernel
theorem dX12_blank_34 : decode cX12_blank 34 = .ok (.sipush 256, 3) := by decide +kernel
theorem dX12_blank_37 : decode cX12_blank 37 = .ok (.iload_n 2, 1) := by decide +kernel
theorem dX12_blank_38 : decode cX12_blank 38 = .ok (.imul, 1) := by decide +kernel
theorem dX12_blank_39 : decode cX12_blank 39 = .ok (.iload_n 3, 1) := by decide +kernel
theorem dX12_blank_40 : decode cX12_blank 40 = .ok (.iadd, 1) := by decide +kernel
theorem dX12_blank_41 : decode cX12_blank 41 = .ok (.iconst (-1), 1) := by decide +kernel
theorem dX12_blank_42 : decode cX12_blank 42 = .ok (.iastore, 1) := by decide +kernel
theorem dX12_blank_43 : decode cX12_blank 43 = .ok (.iinc 3 1, 3) := by decide +kernel
theorem dX12_blank_46 : decode cX12_blank 46 = .ok (.goto (-23), 3) := by decide +kernel
theorem dX12_marksOf_0 : decode cX12_marksOf 0 = .ok (.iconst 0, 1) := by decide +kernel
theorem dX12_marksOf_1 : decode cX12_marksOf 1 = .ok (.istore_n 1, 1) := by decide +kernel
theorem dX12_marksOf_2 : decode cX12_marksOf 2 = .ok (.iconst 0, 1) := by decide +kernel
theorem dX12_marksOf_3 : decode cX12_marksOf 3 = .ok (.istore_n 2, 1) := by decide +kernel
theorem dX12_marksOf_4 : decode cX12_marksOf 4 = .ok (.iload_n 2, 1) := by decide +kernel
theorem dX12_marksOf_5 : decode cX12_marksOf 5 = .ok (.aload_n 0, 1) := by decide +kernel
theorem dX12_marksOf_6 : decode cX12_marksOf 6 = .ok (.getfield 13, 3) := by decide +kernel
theorem dX12_marksOf_9 : decode cX12_marksOf 9 = .ok (.iconst 0, 1) := by decide +kernel
theorem dX12_marksOf_10 : decode cX12_marksOf 10 = .ok (.iaload, 1) := by decide +kernel
theorem dX12_marksOf_11 : decode cX12_marksOf 11 = .ok (.if_icmp .ge 23, 3) := by decide +kernel
theorem dX12_marksOf_34 : decode cX12_marksOf 34 = .ok (.iload_n 1, 1) := by decide +kernel
theorem dX12_marksOf_35 : decode cX12_marksOf 35 = .ok (.ireturn, 1) := by decide +kernel
theorem dX12_marksOf_14 : decode cX12_marksOf 14 = .ok (.aload_n 0, 1) := by decide +kernel
theorem dX12_marksOf_15 : decode cX12_marksOf 15 = .ok (.getfield 16, 3) := by decide +kernel
theorem dX12_marksOf_18 : decode cX12_marksOf 18 = .ok (.iload_n 2, 1) := by decide +kernel
theorem dX12_marksOf_19 : decode cX12_marksOf 19 = .ok (.iaload, 1) := by decide +kernel
theorem dX12_marksOf_20 : decode cX12_marksOf 20 = .ok (.ldc 126, 2) := by decide +kernel
theorem dX12_marksOf_22 : decode cX12_marksOf 22 = .ok (.if_icmp .ne 6, 3) := by decide +kernel
theorem dX12_marksOf_28 : decode cX12_marksOf 28 = .ok (.iinc 2 1, 3) := by decide +kernel
theorem dX12_marksOf_31 : decode cX12_marksOf 31 = .ok (.goto (-27), 3) := by decide +kernel
theorem dX12_marksOf_25 : decode cX12_marksOf 25 = .ok (.iinc 1 1, 3) := by decide +kernel
theorem dX12_count_0 : decode cX12_count 0 = .ok (.aload_n 0, 1) := by decide +kernel
theorem dX12_count_1 : decode cX12_count 1 = .ok (.iconst 0, 1) := by decide +kernel
theorem dX12_count_2 : decode cX12_count 2 = .ok (.putfield 85, 3) := by decide +kernel
theorem dX12_count_5 : decode cX12_count 5 = .ok (.iload_n 1, 1) := by decide +kernel
theorem dX12_count_6 : decode cX12_count 6 = .ok (.tableswitch 92 0 7 #[46, 53, 58, 63, 68, 73, 78, 85], 46) := by decide +kernel
theorem dX12_count_52 : decode cX12_count 52 = .ok (.aload_n 0, 1) := by decide +kernel
theorem dX12_count_53 : decode cX12_count 53 = .ok (.getfield 13, 3) := by decide +kernel
theorem dX12_count_56 : decode cX12_count 56 = .ok (.iconst 0, 1) := by decide +kernel
theorem dX12_count_57 : decode cX12_count 57 = .ok (.iaload, 1) := by decide +kernel
theorem dX12_count_58 : decode cX12_count 58 = .ok (.ireturn, 1) := by decide +kernel
theorem dX12_count_59 : decode cX12_count 59 = .ok (.aload_n 0, 1) := by decide +kernel
theorem dX12_count_60 : decode cX12_count 60 = .ok (.getfield 151, 3) := by decide +kernel
theorem dX12_count_63 : decode cX12_count 63 = .ok (.ireturn, 1) := by decide +kernel
theorem dX12_count_64 : decode cX12_count 64 = .ok (.aload_n 0, 1) := by decide +kernel
theorem dX12_count_65 : decode cX12_count 65 = .ok (.getfield 161, 3) := by decide +kernel
theorem dX12_count_68 : decode cX12_count 68 = .ok (.ireturn, 1) := by decide +kernel
theorem dX12_count_69 : decode cX12_count 69 = .ok (.aload_n 0, 1) := by decide +kernel
theorem dX12_count_70 : decode cX12_count 70 = .ok (.getfield 142, 3) := by decide +kernel
theorem dX12_count_73 : decode cX12_count 73 = .ok (.ireturn, 1) := by decide +kernel
theorem dX12_count_74 : decode cX12_count 74 = .ok (.aload_n 0, 1) := by decide +kernel
set_option maxRecDepth 20000 in
theorem ggX12_count_X12_marksOf : GoodIn wsX12_count wsX12_marksOf := goodIn_r _ [12, 2, 13, 14, 15, 16, 17, 18, 19, 20, 21, 22, 23, 24, 25, 26, 27, 28, 29, 30, 31, 32, 33, 34, 35, 36, 37, 38, 39, 40, 41, 42, 43, 44, 45, 46, 47, 48, 49, 50, 51, 52, 53, 54] rfl (by decide +kernel)
set_option maxRecDepth 20000 in
theorem gX12_count_X12_marksOf : GoodIn wsX12_count (wsV RX12 164 RX12 yX12_marksOf wsX12_marksOf) := goodIn_app (goodIn_r _ [8, 9, 10, 11] rfl (by decide +kernel)) ggX12_count_X12_marksOf
theorem dX12_count_75 : decode cX12_count 75 = .ok (.invokevirtual 164, 3) := by decide +kernel
theorem dX12_count_78 : decode cX12_count 78 = .ok (.ireturn, 1) := by decide +kernel
theorem dX12_count_79 : decode cX12_count 79 = .ok (.aload_n 0, 1) := by decide +kernel
theorem dX12_count_80 : decode cX12_count 80 = .ok (.getfield 168, 3) := by decide +kernel
theorem dX12_count_83 : decode cX12_count 83 = .ok (.ireturn, 1) := by decide +kernel
theorem dX12_count_84 : decode cX12_count 84 = .ok (.aload_n 0, 1) := by decide +kernel
theorem dX12_count_85 : decode cX12_count 85 = .ok (.getfield 27, 3) := by decide +kernel
theorem dX12_count_88 : decode cX12_count 88 = .ok (.iconst 0, 1) := by decide +kernel
theorem dX12_count_89 : decode cX12_count 89 = .ok (.iaload, 1) := by decide +kernel
theorem dX12_count_90 : decode cX12_count 90 = .ok (.ireturn, 1) := by decide +kernel
theorem dX12_count_91 : decode cX12_count 91 = .ok (.aload_n 0, 1) := by decide +kernel
theorem dX12_count_92 : decode cX12_count 92 = .ok (.getfield 27, 3) := by decide +kernel
theorem dX12_count_95 : decode cX12_count 95 = .ok (.iconst 1, 1) := by decide +kernel
theorem dX12_count_96 : decode cX12_count 96 = .ok (.iaload, 1) := by decide +kernel
theorem dX12_count_97 : decode cX12_count 97 = .ok (.ireturn, 1) := by decide +kernel
theorem dX12_count_98 : decode cX12_count 98 = .ok (.iconst (-1), 1) := by decide +kernel
theorem dX12_count_99 : decode cX12_count 99 = .ok (.ireturn, 1) := by decide +kernel
theorem dX12_at_0 : decode cX12_at 0 = .ok (.aload_n 0, 1) := by decide +kernel
theorem dX12_at_1 : decode cX12_at 1 = .ok (.iconst 0, 1) := by decide +kernel
theorem dX12_at_2 : decode cX12_at 2 = .ok (.putfield 85, 3) := by decide +kernel
theorem dX12_at_5 : decode cX12_at 5 = .ok (.iload_n 1, 1) := by decide +kernel
theorem dX12_at_6 : decode cX12_at 6 = .ok (.ifCond .lt 13, 3) := by decide +kernel
theorem dX12_at_19 : decode cX12_at 19 = .ok (.aload_n 0, 1) := by decide +kernel
theorem dX12_at_20 : decode cX12_at 20 = .ok (.iconst 1, 1) := by decide +kernel
theorem dX12_at_21 : decode cX12_at 21 = .ok (.putfield 85, 3) := by decide +kernel
theorem dX12_at_24 : decode cX12_at 24 = .ok (.iconst 0, 1) := by decide +kernel
theorem dX12_at_25 : decode cX12_at 25 = .ok (.ireturn, 1) := by decide +kernel
theorem dX12_at_9 : decode cX12_at 9 = .ok (.iload_n 1, 1) := by decide +kernel
theorem dX12_at_10 : decode cX12_at 10 = .ok (.aload_n 0, 1) := by decide +kernel
theorem dX12_at_11 : decode cX12_at 11 = .ok (.getfield 13, 3) := by decide +kernel
theorem dX12_at_14 : decode cX12_at 14 = .ok (.iconst 0, 1) := by decide +kernel
theorem dX12_at_15 : decode cX12_at 15 = .ok (.iaload, 1) := by decide +kernel
theorem dX12_at_16 : decode cX12_at 16 = .ok (.if_icmp .lt 10, 3) := by decide +kernel
theorem dX12_at_26 : decode cX12_at 26 = .ok (.aload_n 0, 1) := by decide +kernel
theorem dX12_at_27 : decode cX12_at 27 = .ok (.getfield 16, 3) := by decide +kernel
theorem dX12_at_30 : decode cX12_at 30 = .ok (.iload_n 1, 1) := by decide +kernel
theorem dX12_at_31 : decode cX12_at 31 = .ok (.iaload, 1) := by decide +kernel
theorem dX12_at_32 : decode cX12_at 32 = .ok (.ireturn, 1) := by decide +kernel
theorem dX12_where_0 : decode cX12_where 0 = .ok (.aload_n 0, 1) := by decide +kernel
theorem dX12_where_1 : decode cX12_where 1 = .ok (.iconst 0, 1) := by decide +kernel
theorem dX12_where_2 : decode cX12_where 2 = .ok (.putfield 85, 3) := by decide +kernel
theorem dX12_where_5 : decode cX12_where 5 = .ok (.aload_n 0, 1) := by decide +kernel
theorem dX12_where_6 : decode cX12_where 6 = .ok (.getfield 55, 3) := by decide +kernel
theorem dX12_where_9 : decode cX12_where 9 = .ok (.ireturn, 1) := by decide +kernel
