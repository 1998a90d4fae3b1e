theorem dX12_back_0 : decode cX12_back 0 = .ok (.aload_n 0, 1) := by decide +kernel
theorem dX12_back_1 : decode cX12_back 1 = .ok (.iconst 0, 1) := by decide +kernel
theorem dX12_back_2 : decode cX12_back 2 = .ok (.putfield 85, 3) := by decide +kernel
theorem dX12_back_5 : decode cX12_back 5 = .ok (.aload_n 0, 1) := by decide +kernel
theorem dX12_back_6 : decode cX12_back 6 = .ok (.getfield 142, 3) := by decide +kernel
theorem dX12_back_9 : decode cX12_back 9 = .ok (.ifCond .ne 5, 3) := by decide +kernel
theorem dX12_back_12 : decode cX12_back 12 = .ok (.iconst (-1), 1) := by decide +kernel
theorem dX12_back_13 : decode cX12_back 13 = .ok (.ireturn, 1) := by decide +kernel
theorem dX12_list_0 : decode cX12_list 0 = .ok (.aload_n 0, 1) := by decide +kernel
theorem dX12_list_1 : decode cX12_list 1 = .ok (.iconst 0, 1) := by decide +kernel
theorem dX12_list_2 : decode cX12_list 2 = .ok (.putfield 85, 3) := by decide +kernel
theorem dX12_list_5 : decode cX12_list 5 = .ok (.aload_n 0, 1) := by decide +kernel
theorem dX12_list_6 : decode cX12_list 6 = .ok (.iconst (-1), 1) := by decide +kernel
theorem dX12_list_7 : decode cX12_list 7 = .ok (.putfield 55, 3) := by decide +kernel
theorem dX12_list_10 : decode cX12_list 10 = .ok (.iload_n 1, 1) := by decide +kernel
set_option maxRecDepth 20000 in
theorem ggX12_list_X12_isCode : GoodIn wsX12_list wsX12_isCode := goodIn_r _ [10] rfl (by decide +kernel)
set_option maxRecDepth 20000 in
theorem gX12_list_X12_isCode : GoodIn wsX12_list (va_wsS RX12 158 yX12_isCode wsX12_isCode) := goodIn_app (goodIn_r _ [7, 8, 9] rfl (by decide +kernel)) ggX12_list_X12_isCode
theorem dX12_list_11 : decode cX12_list 11 = .ok (.invokestatic 158, 3) := by decide +kernel
theorem dX12_list_14 : decode cX12_list 14 = .ok (.ifCond .eq 19, 3) := by decide +kernel
theorem dX12_list_33 : decode cX12_list 33 = .ok (.iconst (-1), 1) := by decide +kernel
theorem dX12_list_34 : decode cX12_list 34 = .ok (.ireturn, 1) := by decide +kernel
theorem dX12_list_17 : decode cX12_list 17 = .ok (.iload_n 2, 1) := by decide +kernel
theorem dX12_list_18 : decode cX12_list 18 = .ok (.invokestatic 158, 3) := by decide +kernel
theorem dX12_list_21 : decode cX12_list 21 = .ok (.ifCond .eq 12, 3) := by decide +kernel
theorem dX12_list_24 : decode cX12_list 24 = .ok (.aload_n 0, 1) := by decide +kernel
theorem dX12_list_25 : decode cX12_list 25 = .ok (.getfield 161, 3) := by decide +kernel
theorem dX12_list_28 : decode cX12_list 28 = .ok (.bipush 6, 2) := by decide +kernel
theorem dX12_list_30 : decode cX12_list 30 = .ok (.if_icmp .ne 5, 3) := by decide +kernel
theorem dX12_list_35 : decode cX12_list 35 = .ok (.iconst 0, 1) := by decide +kernel
theorem dX12_list_36 : decode cX12_list 36 = .ok (.istore_n 3, 1) := by decide +kernel
theorem dX12_list_37 : decode cX12_list 37 = .ok (.iload_n 3, 1) := by decide +kernel
theorem dX12_list_38 : decode cX12_list 38 = .ok (.aload_n 0, 1) := by decide +kernel
theorem dX12_list_39 : decode cX12_list 39 = .ok (.getfield 161, 3) := by decide +kernel
theorem dX12_list_42 : decode cX12_list 42 = .ok (.if_icmp .ge 31, 3) := by decide +kernel
theorem dX12_list_73 : decode cX12_list 73 = .ok (.aload_n 0, 1) := by decide +kernel
theorem dX12_list_74 : decode cX12_list 74 = .ok (.getfield 30, 3) := by decide +kernel
theorem dX12_list_77 : decode cX12_list 77 = .ok (.aload_n 0, 1) := by decide +kernel
theorem dX12_list_78 : decode cX12_list 78 = .ok (.getfield 161, 3) := by decide +kernel
theorem dX12_list_81 : decode cX12_list 81 = .ok (.iload_n 1, 1) := by decide +kernel
theorem dX12_list_82 : decode cX12_list 82 = .ok (.iastore, 1) := by decide +kernel
theorem dX12_list_83 : decode cX12_list 83 = .ok (.aload_n 0, 1) := by decide +kernel
theorem dX12_list_84 : decode cX12_list 84 = .ok (.getfield 33, 3) := by decide +kernel
theorem dX12_list_87 : decode cX12_list 87 = .ok (.aload_n 0, 1) := by decide +kernel
theorem dX12_list_88 : decode cX12_list 88 = .ok (.getfield 161, 3) := by decide +kernel
theorem dX12_list_91 : decode cX12_list 91 = .ok (.iload_n 2, 1) := by decide +kernel
theorem dX12_list_92 : decode cX12_list 92 = .ok (.iastore, 1) := by decide +kernel
theorem dX12_list_93 : decode cX12_list 93 = .ok (.aload_n 0, 1) := by decide +kernel
theorem dX12_list_94 : decode cX12_list 94 = .ok (.dup, 1) := by decide +kernel
theorem dX12_list_95 : decode cX12_list 95 = .ok (.getfield 161, 3) := by decide +kernel
theorem dX12_list_98 : decode cX12_list 98 = .ok (.iconst 1, 1) := by decide +kernel
theorem dX12_list_99 : decode cX12_list 99 = .ok (.iadd, 1) := by decide +kernel
theorem dX12_list_100 : decode cX12_list 100 = .ok (.putfield 161, 3) := by decide +kernel
theorem dX12_list_103 : decode cX12_list 103 = .ok (.aload_n 0, 1) := by decide +kernel
theorem dX12_list_104 : decode cX12_list 104 = .ok (.dup, 1) := by decide +kernel
theorem dX12_list_105 : decode cX12_list 105 = .ok (.getfield 148, 3) := by decide +kernel
theorem dX12_list_108 : decode cX12_list 108 = .ok (.iconst 1, 1) := by decide +kernel
theorem dX12_list_109 : decode cX12_list 109 = .ok (.iadd, 1) := by decide +kernel
theorem dX12_list_110 : decode cX12_list 110 = .ok (.putfield 148, 3) := by decide +kernel
theorem dX12_list_113 : decode cX12_list 113 = .ok (.aload_n 0, 1) := by decide +kernel
theorem dX12_list_114 : decode cX12_list 114 = .ok (.getfield 161, 3) := by decide +kernel
theorem dX12_list_117 : decode cX12_list 117 = .ok (.iconst 1, 1) := by decide +kernel
theorem dX12_list_118 : decode cX12_list 118 = .ok (.isub, 1) := by decide +kernel
theorem dX12_list_119 : decode cX12_list 119 = .ok (.ireturn, 1) := by decide +kernel
theorem dX12_unlist_0 : decode cX12_unlist 0 = .ok (.aload_n 0, 1) := by decide +kernel
theorem dX12_unlist_1 : decode cX12_unlist 1 = .ok (.iconst 0, 1) := by decide +kernel
theorem dX12_unlist_2 : decode cX12_unlist 2 = .ok (.putfield 85, 3) := by decide +kernel
theorem dX12_unlist_5 : decode cX12_unlist 5 = .ok (.aload_n 0, 1) := by decide +kernel
theorem dX12_unlist_6 : decode cX12_unlist 6 = .ok (.getfield 161, 3) := by decide +kernel
theorem dX12_unlist_9 : decode cX12_unlist 9 = .ok (.istore_n 1, 1) := by decide +kernel
theorem dX12_unlist_10 : decode cX12_unlist 10 = .ok (.aload_n 0, 1) := by decide +kernel
theorem dX12_unlist_11 : decode cX12_unlist 11 = .ok (.iconst 0, 1) := by decide +kernel
theorem dX12_unlist_12 : decode cX12_unlist 12 = .ok (.putfield 161, 3) := by decide +kernel
theorem dX12_unlist_15 : decode cX12_unlist 15 = .ok (.aload_n 0, 1) := by decide +kernel
theorem dX12_unlist_16 : decode cX12_unlist 16 = .ok (.dup, 1) := by decide +kernel
theorem dX12_unlist_17 : decode cX12_unlist 17 = .ok (.getfield 148, 3) := by decide +kernel
theorem dX12_unlist_20 : decode cX12_unlist 20 = .ok (.iconst 1, 1) := by decide +kernel
theorem dX12_unlist_21 : decode cX12_unlist 21 = .ok (.iadd, 1) := by decide +kernel
theorem dX12_unlist_22 : decode cX12_unlist 22 = .ok (.putfield 148, 3) := by decide +kernel
theorem dX12_unlist_25 : decode cX12_unlist 25 = .ok (.iload_n 1, 1) := by decide +kernel
theorem dX12_unlist_26 : decode cX12_unlist 26 = .ok (.ireturn, 1) := by decide +kernel
theorem dX12_rows_0 : decode cX12_rows 0 = .ok (.aload_n 0, 1) := by decide +kernel
theorem dX12_rows_1 : decode cX12_rows 1 = .ok (.iconst 0, 1) := by decide +kernel
theorem dX12_rows_2 : decode cX12_rows 2 = .ok (.putfield 85, 3) := by decide +kernel
theorem dX12_rows_5 : decode cX12_rows 5 = .ok (.aload_n 0, 1) := by decide +kernel
theorem dX12_rows_6 : decode cX12_rows 6 = .ok (.iconst (-1), 1) := by decide +kernel
theorem dX12_rows_7 : decode cX12_rows 7 = .ok (.putfield 55, 3) := by decide +kernel
theorem dX12_rows_10 : decode cX12_rows 10 = .ok (.iload_n 1, 1) := by decide +kernel
theorem dX12_rows_11 : decode cX12_rows 11 = .ok (.iconst 1, 1) := by decide +kernel
theorem dX12_rows_12 : decode cX12_rows 12 = .ok (.if_icmp .lt 8, 3) := by decide +kernel
theorem dX12_rows_20 : decode cX12_rows 20 = .ok (.iconst (-1), 1) := by decide +kernel
theorem dX12_rows_21 : decode cX12_rows 21 = .ok (.ireturn, 1) := by decide +kernel
theorem dX12_rows_15 : decode cX12_rows 15 = .ok (.iload_n 1, 1) := by decide +kernel
theorem dX12_rows_16 : decode cX12_rows 16 = .ok (.iconst 3, 1) := by decide +kernel
theorem dX12_rows_17 : decode cX12_rows 17 = .ok (.if_icmp .le 5, 3) := by decide +kernel
theorem dX12_rows_22 : decode cX12_rows 22 = .ok (.aload_n 0, 1) := by decide +kernel
theorem dX12_rows_23 : decode cX12_rows 23 = .ok (.iconst 0, 1) := by decide +kernel
theorem dX12_rows_24 : decode cX12_rows 24 = .ok (.putfield 180, 3) := by decide +kernel
theorem dX12_rows_27 : decode cX12_rows 27 = .ok (.iconst 1, 1) := by decide +kernel
theorem dX12_rows_28 : decode cX12_rows 28 = .ok (.istore_n 2, 1) := by decide +kernel
theorem dX12_rows_29 : decode cX12_rows 29 = .ok (.iload_n 2, 1) := by decide +kernel
theorem dX12_rows_30 : decode cX12_rows 30 = .ok (.iload_n 1, 1) := by decide +kernel
theorem dX12_rows_31 : decode cX12_rows 31 = .ok (.if_icmp .gt 177, 3) := by decide +kernel
theorem dX12_rows_34 : decode cX12_rows 34 = .ok (.aload_n 0, 1) := by decide +kernel
theorem dX12_rows_35 : decode cX12_rows 35 = .ok (.getfield 161, 3) := by decide +kernel
theorem dX12_rows_38 : decode cX12_rows 38 = .ok (.ifCond .ne 7, 3) := by decide +kernel
theorem dX12_rows_41 : decode cX12_rows 41 = .ok (.iconst 0, 1) := by decide +kernel
theorem dX12_rows_42 : decode cX12_rows 42 = .ok (.goto 11, 3) := by decide +kernel
theorem dX12_rows_53 : decode cX12_rows 53 = .ok (.istore_n 3, 1) := by decide +kernel
theorem dX12_rows_54 : decode cX12_rows 54 = .ok (.iconst 0, 1) := by decide +kernel
theorem dX12_rows_55 : decode cX12_rows 55 = .ok (.istore 4, 2) := by decide +kernel
theorem dX12_rows_57 : decode cX12_rows 57 = .ok (.iload 4, 2) := by decide +kernel
theorem dX12_rows_59 : decode cX12_rows 59 = .ok (.iload_n 3, 1) := by decide +kernel
theorem dX12_rows_60 : decode cX12_rows 60 = .ok (.if_icmp .ge 142, 3) := by decide +kernel
theorem dX12_rows_202 : decode cX12_rows 202 = .ok (.iinc 2 1, 3) := by decide +kernel
theorem dX12_rows_205 : decode cX12_rows 205 = .ok (.goto (-176), 3) := by decide +kernel
theorem dX12_rows_208 : decode cX12_rows 208 = .ok (.aload_n 0, 1) := by decide +kernel
theorem dX12_rows_209 : decode cX12_rows 209 = .ok (.getfield 180, 3) := by decide +kernel
theorem dX12_rows_212 : decode cX12_rows 212 = .ok (.ireturn, 1) := by decide +kernel
theorem dX12_row_0 : decode cX12_row 0 = .ok (.aload_n 0, 1) := by decide +kernel
theorem dX12_row_1 : decode cX12_row 1 = .ok (.iconst 0, 1) := by decide +kernel
theorem dX12_row_2 : decode cX12_row 2 = .ok (.putfield 85, 3) := by decide +kernel
theorem dX12_row_5 : decode cX12_row 5 = .ok (.iload_n 1, 1) := by decide +kernel
theorem dX12_row_6 : decode cX12_row 6 = .ok (.ifCond .lt 35, 3) := by decide +kernel
theorem dX12_row_41 : decode cX12_row 41 = .ok (.iconst (-1), 1) := by decide +kernel
theorem dX12_row_42 : decode cX12_row 42 = .ok (.ireturn, 1) := by decide +kernel
theorem dX12_row_9 : decode cX12_row 9 = .ok (.iload_n 1, 1) := by decide +kernel
theorem dX12_row_10 : decode cX12_row 10 = .ok (.aload_n 0, 1) := by decide +kernel
theorem dX12_row_11 : decode cX12_row 11 = .ok (.getfield 180, 3) := by decide +kernel
theorem dX12_row_14 : decode cX12_row 14 = .ok (.if_icmp .ge 27, 3) := by decide +kernel
theorem dX12_cost_0 : decode cX12_cost 0 = .ok (.aload_n 0, 1) := by decide +kernel
theorem dX12_cost_1 : decode cX12_cost 1 = .ok (.iconst 0, 1) := by decide +kernel
theorem dX12_cost_2 : decode cX12_cost 2 = .ok (.putfield 85, 3) := by decide +kernel
theorem dX12_cost_5 : decode cX12_cost 5 = .ok (.iload_n 1, 1) := by decide +kernel
set_option maxRecDepth 20000 in
theorem ggX12_cost_X12_isLetter : GoodIn wsX12_cost wsX12_isLetter := goodIn_r _ [10, 11, 12, 13] rfl (by decide +kernel)
set_option maxRecDepth 20000 in
theorem gX12_cost_X12_isLetter : GoodIn wsX12_cost (va_wsS RX12 116 yX12_isLetter wsX12_isLetter) := goodIn_app (goodIn_r _ [7, 8, 9] rfl (by decide +kernel)) ggX12_cost_X12_isLetter
theorem dX12_cost_6 : decode cX12_cost 6 = .ok (.invokestatic 116, 3) := by decide +kernel
theorem dX12_cost_9 : decode cX12_cost 9 = .ok (.ifCond .eq 21, 3) := by decide +kernel
theorem dX12_cost_30 : decode cX12_cost 30 = .ok (.iconst 0, 1) := by decide +kernel
theorem dX12_cost_31 : decode cX12_cost 31 = .ok (.ireturn, 1) := by decide +kernel
theorem dX12_cost_12 : decode cX12_cost 12 = .ok (.iload_n 2, 1) := by decide +kernel
theorem dX12_cost_13 : decode cX12_cost 13 = .ok (.invokestatic 116, 3) := by decide +kernel
theorem dX12_cost_16 : decode cX12_cost 16 = .ok (.ifCond .eq 14, 3) := by decide +kernel
theorem dX12_cost_19 : decode cX12_cost 19 = .ok (.iload_n 3, 1) := by decide +kernel
theorem dX12_cost_20 : decode cX12_cost 20 = .ok (.ifCond .lt 10, 3) := by decide +kernel
theorem dX12_cost_23 : decode cX12_cost 23 = .ok (.iload_n 3, 1) := by decide +kernel
theorem dX12_cost_24 : decode cX12_cost 24 = .ok (.sipush 200, 3) := by decide +kernel
theorem dX12_cost_27 : decode cX12_cost 27 = .ok (.if_icmp .le 5, 3) := by decide +kernel
theorem dX12_cost_32 : decode cX12_cost 32 = .ok (.iconst 0, 1) := by decide +kernel
theorem dX12_cost_33 : decode cX12_cost 33 = .ok (.istore 4, 2) := by decide +kernel
theorem dX12_cost_35 : decode cX12_cost 35 = .ok (.iload 4, 2) := by decide +kernel
theorem dX12_cost_37 : decode cX12_cost 37 = .ok (.aload_n 0, 1) := by decide +kernel
theorem dX12_cost_38 : decode cX12_cost 38 = .ok (.getfield 168, 3) := by decide +kernel
theorem dX12_cost_41 : decode cX12_cost 41 = .ok (.if_icmp .ge 31, 3) := by decide +kernel
theorem dX12_cost_72 : decode cX12_cost 72 = .ok (.iload 4, 2) := by decide +kernel
theorem dX12_cost_74 : decode cX12_cost 74 = .ok (.sipush 300, 3) := by decide +kernel
theorem dX12_cost_77 : decode cX12_cost 77 = .ok (.if_icmp .ne 5, 3) := by decide +kernel
theorem dX12_cost_82 : decode cX12_cost 82 = .ok (.aload_n 0, 1) := by decide +kernel
theorem dX12_cost_83 : decode cX12_cost 83 = .ok (.getfield 39, 3) := by decide +kernel
theorem dX12_cost_86 : decode cX12_cost 86 = .ok (.iload 4, 2) := by decide +kernel
theorem dX12_cost_88 : decode cX12_cost 88 = .ok (.iload_n 1, 1) := by decide +kernel
theorem dX12_cost_89 : decode cX12_cost 89 = .ok (.iastore, 1) := by decide +kernel
theorem dX12_cost_90 : decode cX12_cost 90 = .ok (.aload_n 0, 1) := by decide +kernel
theorem dX12_cost_91 : decode cX12_cost 91 = .ok (.getfield 42, 3) := by decide +kernel
theorem dX12_cost_94 : decode cX12_cost 94 = .ok (.iload 4, 2) := by decide +kernel
theorem dX12_cost_96 : decode cX12_cost 96 = .ok (.iload_n 2, 1) := by decide +kernel
theorem dX12_cost_97 : decode cX12_cost 97 = .ok (.iastore, 1) := by decide +kernel
theorem dX12_cost_98 : decode cX12_cost 98 = .ok (.aload_n 0, 1) := by decide +kernel
theorem dX12_cost_99 : decode cX12_cost 99 = .ok (.getfield 45, 3) := by decide +kernel
theorem dX12_cost_102 : decode cX12_cost 102 = .ok (.iload 4, 2) := by decide +kernel
theorem dX12_cost_104 : decode cX12_cost 104 = .ok (.iload_n 3, 1) := by decide +kernel
theorem dX12_cost_105 : decode cX12_cost 105 = .ok (.iastore, 1) := by decide +kernel
theorem dX12_cost_106 : decode cX12_cost 106 = .ok (.iload 4, 2) := by decide +kernel
theorem dX12_cost_108 : decode cX12_cost 108 = .ok (.aload_n 0, 1) := by decide +kernel
theorem dX12_cost_109 : decode cX12_cost 109 = .ok (.getfield 168, 3) := by decide +kernel
theorem dX12_cost_112 : decode cX12_cost 112 = .ok (.if_icmp .ne 13, 3) := by decide +kernel
theorem dX12_cost_115 : decode cX12_cost 115 = .ok (.aload_n 0, 1) := by decide +kernel
theorem dX12_cost_116 : decode cX12_cost 116 = .ok (.dup, 1) := by decide +kernel
theorem dX12_cost_117 : decode cX12_cost 117 = .ok (.getfield 168, 3) := by decide +kernel
theorem dX12_cost_120 : decode cX12_cost 120 = .ok (.iconst 1, 1) := by decide +kernel
theorem dX12_cost_121 : decode cX12_cost 121 = .ok (.iadd, 1) := by decide +kernel
theorem dX12_cost_122 : decode cX12_cost 122 = .ok (.putfield 168, 3) := by decide +kernel
theorem dX12_cost_125 : decode cX12_cost 125 = .ok (.aload_n 0, 1) := by decide +kernel
theorem dX12_cost_126 : decode cX12_cost 126 = .ok (.dup, 1) := by decide +kernel
theorem dX12_cost_127 : decode cX12_cost 127 = .ok (.getfield 148, 3) := by decide +kernel
theorem dX12_cost_130 : decode cX12_cost 130 = .ok (.iconst 1, 1) := by decide +kernel
theorem dX12_cost_131 : decode cX12_cost 131 = .ok (.iadd, 1) := by decide +kernel
theorem dX12_cost_132 : decode cX12_cost 132 = .ok (.putfield 148, 3) := by decide +kernel
theorem dX12_cost_135 : decode cX12_cost 135 = .ok (.iconst 1, 1) := by decide +kernel
theorem dX12_cost_136 : decode cX12_cost 136 = .ok (.ireturn, 1) := by decide +kernel
theorem dX12_worth_0 : decode cX12_worth 0 = .ok (.aload_n 0, 1) := by decide +kernel
theorem dX12_worth_1 : decode cX12_worth 1 = .ok (.iconst 0, 1) := by decide +kernel
theorem dX12_worth_2 : decode cX12_worth 2 = .ok (.putfield 85, 3) := by decide +kernel
theorem dX12_worth_5 : decode cX12_worth 5 = .ok (.aload_n 0, 1) := by decide +kernel
theorem dX12_worth_6 : decode cX12_worth 6 = .ok (.aload_n 0, 1) := by decide +kernel
theorem dX12_worth_7 : decode cX12_worth 7 = .ok (.getfield 16, 3) := by decide +kernel
theorem dX12_worth_10 : decode cX12_worth 10 = .ok (.iconst 0, 1) := by decide +kernel
theorem dX12_worth_11 : decode cX12_worth 11 = .ok (.aload_n 0, 1) := by decide +kernel
theorem dX12_worth_12 : decode cX12_worth 12 = .ok (.getfield 13, 3) := by decide +kernel
theorem dX12_worth_15 : decode cX12_worth 15 = .ok (.iconst 0, 1) := by decide +kernel
theorem dX12_worth_16 : decode cX12_worth 16 = .ok (.iaload, 1) := by decide +kernel
set_option maxRecDepth 20000 in
theorem ggX12_worth_X12_costOf_ : GoodIn wsX12_worth wsX12_costOf_ := goodIn_r _ [8, 9, 10, 11, 7, 12, 13, 14, 15, 16, 17, 18, 19, 20, 21, 22, 23, 24, 25, 26, 27, 28, 29, 30, 31, 32, 33, 34, 35, 36, 37, 38, 39, 40, 41, 42, 43, 44, 45, 46, 47, 48, 49, 50, 51, 52, 53, 54, 55, 56, 57, 58, 59] rfl (by decide +kernel)
set_option maxRecDepth 20000 in
theorem gX12_worth_X12_costOf_ : GoodIn wsX12_worth (wsV RX12 189 RX12 yX12_costOf_ wsX12_costOf_) := goodIn_app (goodIn_r _ [4, 5, 6, 7] rfl (by decide +kernel)) ggX12_worth_X12_costOf_
theorem dX12_worth_17 : decode cX12_worth 17 = .ok (.invokevirtual 189, 3) := by decide +kernel
theorem dX12_worth_20 : decode cX12_worth 20 = .ok (.ireturn, 1) := by decide +kernel
theorem dX12_mend_0 : decode cX12_mend 0 = .ok (.aload_n 0, 1) := by decide +kernel
theorem dX12_mend_1 : decode cX12_mend 1 = .ok (.iconst 0, 1) := by decide +kernel
theorem dX12_mend_2 : decode cX12_mend 2 = .ok (.putfield 85, 3) := by decide +kernel
theorem dX12_mend_5 : decode cX12_mend 5 = .ok (.aload_n 0, 1) := by decide +kernel
theorem dX12_mend_6 : decode cX12_mend 6 = .ok (.iconst (-1), 1) := by decide +kernel
theorem dX12_mend_7 : decode cX12_mend 7 = .ok (.putfield 55, 3) := by decide +kernel
theorem dX12_mend_10 : decode cX12_mend 10 = .ok (.iload_n 1, 1) := by decide +kernel
theorem dX12_mend_11 : decode cX12_mend 11 = .ok (.iconst 1, 1) := by decide +kernel
theorem dX12_mend_12 : decode cX12_mend 12 = .ok (.if_icmp .lt 19, 3) := by decide +kernel
theorem dX12_mend_31 : decode cX12_mend 31 = .ok (.iconst (-1), 1) := by decide +kernel
theorem dX12_mend_32 : decode cX12_mend 32 = .ok (.ireturn, 1) := by decide +kernel
theorem dX12_mend_15 : decode cX12_mend 15 = .ok (.iload_n 1, 1) := by decide +kernel
theorem dX12_mend_16 : decode cX12_mend 16 = .ok (.iconst 3, 1) := by decide +kernel
theorem dX12_mend_17 : decode cX12_mend 17 = .ok (.if_icmp .gt 14, 3) := by decide +kernel
theorem dX12_mend_20 : decode cX12_mend 20 = .ok (.iload_n 2, 1) := by decide +kernel
theorem dX12_mend_21 : decode cX12_mend 21 = .ok (.iconst 1, 1) := by decide +kernel
theorem dX12_mend_22 : decode cX12_mend 22 = .ok (.if_icmp .lt 9, 3) := by decide +kernel
theorem dX12_mend_25 : decode cX12_mend 25 = .ok (.iload_n 2, 1) := by decide +kernel
theorem dX12_mend_26 : decode cX12_mend 26 = .ok (.ldc 198, 2) := by decide +kernel
theorem dX12_mend_28 : decode cX12_mend 28 = .ok (.if_icmp .le 5, 3) := by decide +kernel
theorem dX12_mend_33 : decode cX12_mend 33 = .ok (.iconst (-1), 1) := by decide +kernel
theorem dX12_mend_34 : decode cX12_mend 34 = .ok (.istore_n 3, 1) := by decide +kernel
theorem dX12_mend_35 : decode cX12_mend 35 = .ok (.iconst 0, 1) := by decide +kernel
theorem dX12_mend_36 : decode cX12_mend 36 = .ok (.istore 4, 2) := by decide +kernel
theorem dX12_mend_38 : decode cX12_mend 38 = .ok (.iconst 0, 1) := by decide +kernel
theorem dX12_mend_39 : decode cX12_mend 39 = .ok (.istore 5, 2) := by decide +kernel
theorem dX12_mend_41 : decode cX12_mend 41 = .ok (.iconst 0, 1) := by decide +kernel
theorem dX12_mend_42 : decode cX12_mend 42 = .ok (.istore 6, 2) := by decide +kernel
theorem dX12_mend_44 : decode cX12_mend 44 = .ok (.iconst 0, 1) := by decide +kernel
theorem dX12_mend_45 : decode cX12_mend 45 = .ok (.istore 7, 2) := by decide +kernel
theorem dX12_mend_47 : decode cX12_mend 47 = .ok (.iconst 1, 1) := by decide +kernel
theorem dX12_mend_48 : decode cX12_mend 48 = .ok (.istore 8, 2) := by decide +kernel
theorem dX12_mend_50 : decode cX12_mend 50 = .ok (.iload 8, 2) := by decide +kernel
theorem dX12_mend_52 : decode cX12_mend 52 = .ok (.iload_n 1, 1) := by decide +kernel
theorem dX12_mend_53 : decode cX12_mend 53 = .ok (.if_icmp .gt 106, 3) := by decide +kernel
theorem dX12_mend_56 : decode cX12_mend 56 = .ok (.aload_n 0, 1) := by decide +kernel
theorem dX12_mend_57 : decode cX12_mend 57 = .ok (.getfield 161, 3) := by decide +kernel
theorem dX12_mend_60 : decode cX12_mend 60 = .ok (.ifCond .ne 7, 3) := by decide +kernel
theorem dX12_mend_63 : decode cX12_mend 63 = .ok (.iconst 0, 1) := by decide +kernel
theorem dX12_mend_64 : decode cX12_mend 64 = .ok (.goto 12, 3) := by decide +kernel
theorem dX12_mend_76 : decode cX12_mend 76 = .ok (.istore 9, 2) := by decide +kernel
theorem dX12_mend_78 : decode cX12_mend 78 = .ok (.iconst 0, 1) := by decide +kernel
theorem dX12_mend_79 : decode cX12_mend 79 = .ok (.istore 10, 2) := by decide +kernel
theorem dX12_mend_81 : decode cX12_mend 81 = .ok (.iload 10, 2) := by decide +kernel
theorem dX12_mend_83 : decode cX12_mend 83 = .ok (.iload 9, 2) := by decide +kernel
theorem dX12_mend_85 : decode cX12_mend 85 = .ok (.if_icmp .ge 68, 3) := by decide +kernel
theorem dX12_mend_153 : decode cX12_mend 153 = .ok (.iinc 8 1, 3) := by decide +kernel
theorem dX12_mend_156 : decode cX12_mend 156 = .ok (.goto (-106), 3) := by decide +kernel
theorem dX12_mend_159 : decode cX12_mend 159 = .ok (.iload_n 3, 1) := by decide +kernel
theorem dX12_mend_160 : decode cX12_mend 160 = .ok (.iconst (-1), 1) := by decide +kernel
theorem dX12_mend_161 : decode cX12_mend 161 = .ok (.if_icmp .eq 25, 3) := by decide +kernel
theorem dX12_mend_186 : decode cX12_mend 186 = .ok (.iconst (-1), 1) := by decide +kernel
theorem dX12_mend_187 : decode cX12_mend 187 = .ok (.ireturn, 1) := by decide +kernel
theorem dX12_parts_0 : decode cX12_parts 0 = .ok (.aload_n 0, 1) := by decide +kernel
theorem dX12_parts_1 : decode cX12_parts 1 = .ok (.iconst 0, 1) := by decide +kernel
theorem dX12_parts_2 : decode cX12_parts 2 = .ok (.putfield 85, 3) := by decide +kernel
theorem dX12_parts_5 : decode cX12_parts 5 = .ok (.aload_n 0, 1) := by decide +kernel
theorem dX12_parts_6 : decode cX12_parts 6 = .ok (.iconst (-1), 1) := by decide +kernel
theorem dX12_parts_7 : decode cX12_parts 7 = .ok (.putfield 55, 3) := by decide +kernel
theorem dX12_parts_10 : decode cX12_parts 10 = .ok (.aload_n 0, 1) := by decide +kernel
theorem dX12_parts_11 : decode cX12_parts 11 = .ok (.getfield 13, 3) := by decide +kernel
theorem dX12_parts_14 : decode cX12_parts 14 = .ok (.iconst 0, 1) := by decide +kernel
theorem dX12_parts_15 : decode cX12_parts 15 = .ok (.iaload, 1) := by decide +kernel
theorem dX12_parts_16 : decode cX12_parts 16 = .ok (.istore_n 2, 1) := by decide +kernel
theorem dX12_parts_17 : decode cX12_parts 17 = .ok (.iload_n 2, 1) := by decide +kernel
theorem dX12_parts_18 : decode cX12_parts 18 = .ok (.iconst 1, 1) := by decide +kernel
theorem dX12_parts_19 : decode cX12_parts 19 = .ok (.if_icmp .lt 20, 3) := by decide +kernel
theorem dX12_parts_39 : decode cX12_parts 39 = .ok (.iconst (-1), 1) := by decide +kernel
theorem dX12_parts_40 : decode cX12_parts 40 = .ok (.ireturn, 1) := by decide +kernel
theorem dX12_choices_0 : decode cX12_choices 0 = .ok (.aload_n 0, 1) := by decide +kernel
theorem dX12_choices_1 : decode cX12_choices 1 = .ok (.iconst 0, 1) := by decide +kernel
theorem dX12_choices_2 : decode cX12_choices 2 = .ok (.putfield 85, 3) := by decide +kernel
theorem dX12_choices_5 : decode cX12_choices 5 = .ok (.aload_n 0, 1) := by decide +kernel
theorem dX12_choices_6 : decode cX12_choices 6 = .ok (.iconst (-1), 1) := by decide +kernel
theorem dX12_choices_7 : decode cX12_choices 7 = .ok (.putfield 55, 3) := by decide +kernel
theorem dX12_choices_10 : decode cX12_choices 10 = .ok (.aload_n 0, 1) := by decide +kernel
set_option maxRecDepth 20000 in
theorem ggX12_choices_X12_marksOf : GoodIn wsX12_choices wsX12_marksOf := goodIn_r _ [17, 3, 18, 19, 90, 91, 92, 93, 94, 95, 96, 97, 98, 99, 100, 101, 102, 103, 104, 105, 106, 107, 108, 109, 110, 111, 112, 113, 114, 115, 116, 117, 118, 119, 120, 121, 122, 123, 124, 125, 126, 127, 128, 129] rfl (by decide +kernel)
set_option maxRecDepth 20000 in
theorem gX12_choices_X12_marksOf : GoodIn wsX12_choices (wsV RX12 164 RX12 yX12_marksOf wsX12_marksOf) := goodIn_app (goodIn_r _ [13, 14, 15, 16] rfl (by decide +kernel)) ggX12_choices_X12_marksOf
theorem dX12_choices_11 : decode cX12_choices 11 = .ok (.invokevirtual 164, 3) := by decide +kernel
theorem dX12_choices_14 : decode cX12_choices 14 = .ok (.istore_n 3, 1) := by decide +kernel
theorem dX12_choices_15 : decode cX12_choices 15 = .ok (.iload_n 3, 1) := by decide +kernel
theorem dX12_choices_16 : decode cX12_choices 16 = .ok (.iconst 1, 1) := by decide +kernel
theorem dX12_choices_17 : decode cX12_choices 17 = .ok (.if_icmp .lt 33, 3) := by decide +kernel
theorem dX12_choices_50 : decode cX12_choices 50 = .ok (.iconst (-1), 1) := by decide +kernel
theorem dX12_choices_51 : decode cX12_choices 51 = .ok (.ireturn, 1) := by decide +kernel
theorem dX12_choice_0 : decode cX12_choice 0 = .ok (.aload_n 0, 1) := by decide +kernel
theorem dX12_choice_1 : decode cX12_choice 1 = .ok (.iconst 0, 1) := by decide +kernel
theorem dX12_choice_2 : decode cX12_choice 2 = .ok (.putfield 85, 3) := by decide +kernel
theorem dX12_choice_5 : decode cX12_choice 5 = .ok (.aload_n 0, 1) := by decide +kernel
theorem dX12_choice_6 : decode cX12_choice 6 = .ok (.iload_n 1, 1) := by decide +kernel
set_option maxRecDepth 20000 in
theorem ggX12_choice_X12_isToldChoice : GoodIn wsX12_choice wsX12_isToldChoice := goodIn_r _ [7, 8, 9, 10, 11, 12, 13, 14, 15, 16, 17, 18, 19, 20, 21, 22, 23, 24, 25, 26, 27, 28, 29, 30, 31, 32, 33, 34, 35, 36, 37, 38, 39, 40, 41, 42, 43, 44, 45, 46, 47, 48] rfl (by decide +kernel)
set_option maxRecDepth 20000 in
theorem gX12_choice_X12_isToldChoice : GoodIn wsX12_choice (wsV RX12 222 RX12 yX12_isToldChoice wsX12_isToldChoice) := goodIn_app (goodIn_r _ [3, 4, 5, 6] rfl (by decide +kernel)) ggX12_choice_X12_isToldChoice
theorem dX12_choice_7 : decode cX12_choice 7 = .ok (.invokevirtual 222, 3) := by decide +kernel
theorem dX12_choice_10 : decode cX12_choice 10 = .ok (.ifCond .eq 25, 3) := by decide +kernel
theorem dX12_choice_35 : decode cX12_choice 35 = .ok (.iconst (-1), 1) := by decide +kernel
theorem dX12_choice_36 : decode cX12_choice 36 = .ok (.ireturn, 1) := by decide +kernel
theorem dX12_chosen_0 : decode cX12_chosen 0 = .ok (.aload_n 0, 1) := by decide +kernel
theorem dX12_chosen_1 : decode cX12_chosen 1 = .ok (.iconst 0, 1) := by decide +kernel
theorem dX12_chosen_2 : decode cX12_chosen 2 = .ok (.putfield 85, 3) := by decide +kernel
theorem dX12_chosen_5 : decode cX12_chosen 5 = .ok (.aload_n 0, 1) := by decide +kernel
theorem dX12_chosen_6 : decode cX12_chosen 6 = .ok (.iload_n 1, 1) := by decide +kernel
set_option maxRecDepth 20000 in
theorem ggX12_chosen_X12_isToldChoice : GoodIn wsX12_chosen wsX12_isToldChoice := goodIn_r _ [13, 14, 73, 74, 75, 76, 77, 78, 79, 80, 81, 82, 83, 84, 85, 86, 87, 88, 89, 90, 91, 92, 93, 94, 95, 96, 97, 98, 99, 100, 101, 102, 103, 104, 105, 106, 107, 108, 109, 110, 111, 112] rfl (by decide +kernel)
set_option maxRecDepth 20000 in
theorem gX12_chosen_X12_isToldChoice : GoodIn wsX12_chosen (wsV RX12 222 RX12 yX12_isToldChoice wsX12_isToldChoice) := goodIn_app (goodIn_r _ [9, 10, 11, 12] rfl (by decide +kernel)) ggX12_chosen_X12_isToldChoice
theorem dX12_chosen_7 : decode cX12_chosen 7 = .ok (.invokevirtual 222, 3) := by decide +kernel
theorem dX12_chosen_10 : decode cX12_chosen 10 = .ok (.ifCond .eq 14, 3) := by decide +kernel
theorem dX12_chosen_24 : decode cX12_chosen 24 = .ok (.iconst 0, 1) := by decide +kernel
theorem dX12_chosen_25 : decode cX12_chosen 25 = .ok (.ireturn, 1) := by decide +kernel
theorem dX12_blank_0 : decode cX12_blank 0 = .ok (.aload_n 0, 1) := by decide +kernel
theorem dX12_blank_1 : decode cX12_blank 1 = .ok (.iconst 0, 1) := by decide +kernel
theorem dX12_blank_2 : decode cX12_blank 2 = .ok (.putfield 85, 3) := by decide +kernel
theorem dX12_blank_5 : decode cX12_blank 5 = .ok (.iload_n 1, 1) := by decide +kernel
theorem dX12_blank_6 : decode cX12_blank 6 = .ok (.iconst 4, 1) := by decide +kernel
theorem dX12_blank_7 : decode cX12_blank 7 = .ok (.if_icmp .lt 8, 3) := by decide +kernel
theorem dX12_blank_10 : decode cX12_blank 10 = .ok (.iload_n 1, 1) := by decide +kernel
theorem dX12_blank_11 : decode cX12_blank 11 = .ok (.iconst 5, 1) := by decide +kernel
theorem dX12_blank_12 : decode cX12_blank 12 = .ok (.if_icmp .le 5, 3) := by decide +kernel
theorem dX12_blank_17 : decode cX12_blank 17 = .ok (.iload_n 1, 1) := by decide +kernel
theorem dX12_blank_18 : decode cX12_blank 18 = .ok (.iconst 4, 1) := by decide +kernel
theorem dX12_blank_19 : decode cX12_blank 19 = .ok (.isub, 1) := by decide +kernel
theorem dX12_blank_20 : decode cX12_blank 20 = .ok (.istore_n 2, 1) := by decide +kernel
theorem dX12_blank_21 : decode cX12_blank 21 = .ok (.iconst 0, 1) := by decide +kernel
theorem dX12_blank_22 : decode cX12_blank 22 = .ok (.istore_n 3, 1) := by decide +kernel
theorem dX12_blank_23 : decode cX12_blank 23 = .ok (.iload_n 3, 1) := by decide +kernel
theorem dX12_blank_24 : decode cX12_blank 24 = .ok (.sipush 256, 3) := by decide +kernel
theorem dX12_blank_27 : decode cX12_blank 27 = .ok (.if_icmp .ge 22, 3) := by decide +kernel
theorem dX12_blank_49 : decode cX12_blank 49 = .ok (.iconst 0, 1) := by decide +kernel
theorem dX12_blank_50 : decode cX12_blank 50 = .ok (.istore_n 3, 1) := by decide +kernel
theorem dX12_blank_51 : decode cX12_blank 51 = .ok (.iload_n 3, 1) := by decide +kernel
theorem dX12_blank_52 : decode cX12_blank 52 = .ok (.ldc 88, 2) := by decide +kernel
theorem dX12_blank_54 : decode cX12_blank 54 = .ok (.if_icmp .ge 21, 3) := by decide +kernel
theorem dX12_blank_75 : decode cX12_blank 75 = .ok (.aload_n 0, 1) := by decide +kernel
theorem dX12_blank_76 : decode cX12_blank 76 = .ok (.getfield 27, 3) := by decide +kernel
theorem dX12_blank_79 : decode cX12_blank 79 = .ok (.iload_n 2, 1) := by decide +kernel
theorem dX12_blank_80 : decode cX12_blank 80 = .ok (.iconst 0, 1) := by decide +kernel
theorem dX12_blank_81 : decode cX12_blank 81 = .ok (.iastore, 1) := by decide +kernel
theorem dX12_blank_82 : decode cX12_blank 82 = .ok (.aload_n 0, 1) := by decide +kernel
theorem dX12_blank_83 : decode cX12_blank 83 = .ok (.dup, 1) := by decide +kernel
theorem dX12_blank_84 : decode cX12_blank 84 = .ok (.getfield 148, 3) := by decide +kernel
theorem dX12_blank_87 : decode cX12_blank 87 = .ok (.iconst 1, 1) := by decide +kernel
theorem dX12_blank_88 : decode cX12_blank 88 = .ok (.iadd, 1) := by decide +kernel
theorem dX12_blank_89 : decode cX12_blank 89 = .ok (.putfield 148, 3) := by decide +kernel
theorem dX12_blank_92 : decode cX12_blank 92 = .ok (.iconst 1, 1) := by decide +kernel
theorem dX12_blank_93 : decode cX12_blank 93 = .ok (.ireturn, 1) := by decide +kernel
theorem dX12_blank_57 : decode cX12_blank 57 = .ok (.aload_n 0, 1) := by decide +kernel
theorem dX12_blank_58 : decode cX12_blank 58 = .ok (.getfield 23, 3) := by decide +kernel
theorem dX12_blank_61 : decode cX12_blank 61 = .ok (.ldc 88, 2) := by decide +kernel
theorem dX12_blank_63 : decode cX12_blank 63 = .ok (.iload_n 2, 1) := by decide +kernel
theorem dX12_blank_64 : decode cX12_blank 64 = .ok (.imul, 1) := by decide +kernel
theorem dX12_blank_65 : decode cX12_blank 65 = .ok (.iload_n 3, 1) := by decide +kernel
theorem dX12_blank_66 : decode cX12_blank 66 = .ok (.iadd, 1) := by decide +kernel
theorem dX12_blank_67 : decode cX12_blank 67 = .ok (.iconst (-1), 1) := by decide +kernel
theorem dX12_blank_68 : decode cX12_blank 68 = .ok (.sastore, 1) := by decide +kernel
theorem dX12_blank_69 : decode cX12_blank 69 = .ok (.iinc 3 1, 3) := by decide +kernel
theorem dX12_blank_72 : decode cX12_blank 72 = .ok (.goto (-21), 3) := by decide +kernel
theorem dX12_blank_30 : decode cX12_blank 30 = .ok (.aload_n 0, 1) := by decide +kernel
theorem dX12_blank_31 : decode cX12_blank 31 = .ok (.getfield 19, 3) := by decide +kernel
theorem dX12_blank_34 : decode cX12_blank 34 = .ok (.sipush 256, 3) := by decide +kernel
theorem dX12_blank_37 : decode cX12_blank 37 = .ok (.iload_n 2, 1) := by decide +kernel
theorem dX12_blank_38 : decode cX12_blank 38 = .ok (.imul, 1) := by decide +kernel
theorem dX12_blank_39 : decode cX12_blank 39 = .ok (.iload_n 3, 1) := by decide +kernel
theorem dX12_blank_40 : decode cX12_blank 40 = .ok (.iadd, 1) := by decide +kernel
theorem dX12_blank_41 : decode cX12_blank 41 = .ok (.iconst (-1), 1) := by decide +kernel
theorem dX12_blank_42 : decode cX12_blank 42 = .ok (.iastore, 1) := by decide +kernel
theorem dX12_blank_43 : decode cX12_blank 43 = .ok (.iinc 3 1, 3) := by decide +kernel
theorem dX12_blank_46 : decode cX12_blank 46 = .ok (.goto (-23), 3) := by decide +kernel
theorem dX12_blank_15 : decode cX12_blank 15 = .ok (.iconst 0, 1) := by decide +kernel
theorem dX12_blank_16 : decode cX12_blank 16 = .ok (.ireturn, 1) := by decide +kernel
