theorem dX12_isCode_0 : decode cX12_isCode 0 = .ok (.iload_n 0, 1) := by decide +kernel
theorem dX12_isCode_1 : decode cX12_isCode 1 = .ok (.ifCond .lt 13, 3) := by decide +kernel
theorem dX12_isCode_14 : decode cX12_isCode 14 = .ok (.iconst 0, 1) := by decide +kernel
theorem dX12_isCode_15 : decode cX12_isCode 15 = .ok (.ireturn, 1) := by decide +kernel
theorem dX12_isCode_4 : decode cX12_isCode 4 = .ok (.iload_n 0, 1) := by decide +kernel
theorem dX12_isCode_5 : decode cX12_isCode 5 = .ok (.bipush 6, 2) := by decide +kernel
theorem dX12_isCode_7 : decode cX12_isCode 7 = .ok (.if_icmp .ge 7, 3) := by decide +kernel
theorem dX12_isCode_10 : decode cX12_isCode 10 = .ok (.iconst 1, 1) := by decide +kernel
theorem dX12_isCode_11 : decode cX12_isCode 11 = .ok (.goto 4, 3) := by decide +kernel
theorem dX12_isLetter_0 : decode cX12_isLetter 0 = .ok (.iload_n 0, 1) := by decide +kernel
theorem dX12_isLetter_1 : decode cX12_isLetter 1 = .ok (.ifCond .lt 25, 3) := by decide +kernel
theorem dX12_isLetter_26 : decode cX12_isLetter 26 = .ok (.iconst 0, 1) := by decide +kernel
theorem dX12_isLetter_27 : decode cX12_isLetter 27 = .ok (.ireturn, 1) := by decide +kernel
theorem dX12_isLetter_4 : decode cX12_isLetter 4 = .ok (.iload_n 0, 1) := by decide +kernel
theorem dX12_isLetter_5 : decode cX12_isLetter 5 = .ok (.ldc 88, 2) := by decide +kernel
theorem dX12_isLetter_7 : decode cX12_isLetter 7 = .ok (.if_icmp .ge 19, 3) := by decide +kernel
theorem dX12_isLetter_10 : decode cX12_isLetter 10 = .ok (.iload_n 0, 1) := by decide +kernel
theorem dX12_isLetter_11 : decode cX12_isLetter 11 = .ok (.ldc 89, 2) := by decide +kernel
theorem dX12_isLetter_13 : decode cX12_isLetter 13 = .ok (.if_icmp .lt 9, 3) := by decide +kernel
theorem dX12_isLetter_22 : decode cX12_isLetter 22 = .ok (.iconst 1, 1) := by decide +kernel
theorem dX12_isLetter_23 : decode cX12_isLetter 23 = .ok (.goto 4, 3) := by decide +kernel
theorem dX12_isLetter_16 : decode cX12_isLetter 16 = .ok (.iload_n 0, 1) := by decide +kernel
theorem dX12_isLetter_17 : decode cX12_isLetter 17 = .ok (.ldc 90, 2) := by decide +kernel
theorem dX12_isLetter_19 : decode cX12_isLetter 19 = .ok (.if_icmp .le 7, 3) := by decide +kernel
theorem dX12_become_0 : decode cX12_become 0 = .ok (.aload_n 0, 1) := by decide +kernel
theorem dX12_become_1 : decode cX12_become 1 = .ok (.getfield 142, 3) := by decide +kernel
theorem dX12_become_4 : decode cX12_become 4 = .ok (.bipush 20, 2) := by decide +kernel
theorem dX12_become_6 : decode cX12_become 6 = .ok (.if_icmp .ne 19, 3) := by decide +kernel
theorem dX12_become_25 : decode cX12_become 25 = .ok (.aload_n 0, 1) := by decide +kernel
theorem dX12_become_26 : decode cX12_become 26 = .ok (.dup, 1) := by decide +kernel
theorem dX12_become_27 : decode cX12_become 27 = .ok (.getfield 142, 3) := by decide +kernel
theorem dX12_become_30 : decode cX12_become 30 = .ok (.iconst 1, 1) := by decide +kernel
theorem dX12_become_31 : decode cX12_become 31 = .ok (.iadd, 1) := by decide +kernel
theorem dX12_become_32 : decode cX12_become 32 = .ok (.putfield 142, 3) := by decide +kernel
theorem dX12_become_35 : decode cX12_become 35 = .ok (.iconst 1, 1) := by decide +kernel
theorem dX12_become_36 : decode cX12_become 36 = .ok (.aload_n 0, 1) := by decide +kernel
theorem dX12_become_37 : decode cX12_become 37 = .ok (.getfield 145, 3) := by decide +kernel
theorem dX12_become_40 : decode cX12_become 40 = .ok (.aload_n 0, 1) := by decide +kernel
theorem dX12_become_41 : decode cX12_become 41 = .ok (.getfield 142, 3) := by decide +kernel
theorem dX12_become_44 : decode cX12_become 44 = .ok (.iadd, 1) := by decide +kernel
theorem dX12_become_45 : decode cX12_become 45 = .ok (.iconst 1, 1) := by decide +kernel
theorem dX12_become_46 : decode cX12_become 46 = .ok (.isub, 1) := by decide +kernel
theorem dX12_become_47 : decode cX12_become 47 = .ok (.bipush 20, 2) := by decide +kernel
theorem dX12_become_49 : decode cX12_become 49 = .ok (.irem, 1) := by decide +kernel
theorem dX12_become_50 : decode cX12_become 50 = .ok (.iadd, 1) := by decide +kernel
theorem dX12_become_51 : decode cX12_become 51 = .ok (.istore_n 3, 1) := by decide +kernel
theorem dX12_become_52 : decode cX12_become 52 = .ok (.aload_n 0, 1) := by decide +kernel
theorem dX12_become_53 : decode cX12_become 53 = .ok (.getfield 13, 3) := by decide +kernel
theorem dX12_become_56 : decode cX12_become 56 = .ok (.iload_n 3, 1) := by decide +kernel
theorem dX12_become_57 : decode cX12_become 57 = .ok (.aload_n 0, 1) := by decide +kernel
theorem dX12_become_58 : decode cX12_become 58 = .ok (.getfield 13, 3) := by decide +kernel
theorem dX12_become_61 : decode cX12_become 61 = .ok (.iconst 0, 1) := by decide +kernel
theorem dX12_become_62 : decode cX12_become 62 = .ok (.iaload, 1) := by decide +kernel
theorem dX12_become_63 : decode cX12_become 63 = .ok (.iastore, 1) := by decide +kernel
theorem dX12_become_64 : decode cX12_become 64 = .ok (.iconst 0, 1) := by decide +kernel
theorem dX12_become_65 : decode cX12_become 65 = .ok (.istore 4, 2) := by decide +kernel
theorem dX12_become_67 : decode cX12_become 67 = .ok (.iload 4, 2) := by decide +kernel
theorem dX12_become_69 : decode cX12_become 69 = .ok (.aload_n 0, 1) := by decide +kernel
theorem dX12_become_70 : decode cX12_become 70 = .ok (.getfield 13, 3) := by decide +kernel
theorem dX12_become_73 : decode cX12_become 73 = .ok (.iconst 0, 1) := by decide +kernel
theorem dX12_become_74 : decode cX12_become 74 = .ok (.iaload, 1) := by decide +kernel
theorem dX12_become_75 : decode cX12_become 75 = .ok (.if_icmp .ge 29, 3) := by decide +kernel
theorem dX12_become_104 : decode cX12_become 104 = .ok (.aload_n 0, 1) := by decide +kernel
theorem dX12_become_105 : decode cX12_become 105 = .ok (.getfield 13, 3) := by decide +kernel
theorem dX12_become_108 : decode cX12_become 108 = .ok (.iconst 0, 1) := by decide +kernel
theorem dX12_become_109 : decode cX12_become 109 = .ok (.iload_n 2, 1) := by decide +kernel
theorem dX12_become_110 : decode cX12_become 110 = .ok (.iastore, 1) := by decide +kernel
theorem dX12_become_111 : decode cX12_become 111 = .ok (.iconst 0, 1) := by decide +kernel
theorem dX12_become_112 : decode cX12_become 112 = .ok (.istore 4, 2) := by decide +kernel
theorem dX12_become_114 : decode cX12_become 114 = .ok (.iload 4, 2) := by decide +kernel
theorem dX12_become_116 : decode cX12_become 116 = .ok (.iload_n 2, 1) := by decide +kernel
theorem dX12_become_117 : decode cX12_become 117 = .ok (.if_icmp .ge 20, 3) := by decide +kernel
theorem dX12_become_137 : decode cX12_become 137 = .ok (.aload_n 0, 1) := by decide +kernel
theorem dX12_become_138 : decode cX12_become 138 = .ok (.dup, 1) := by decide +kernel
theorem dX12_become_139 : decode cX12_become 139 = .ok (.getfield 148, 3) := by decide +kernel
theorem dX12_become_142 : decode cX12_become 142 = .ok (.iconst 1, 1) := by decide +kernel
theorem dX12_become_143 : decode cX12_become 143 = .ok (.iadd, 1) := by decide +kernel
theorem dX12_become_144 : decode cX12_become 144 = .ok (.putfield 148, 3) := by decide +kernel
theorem dX12_become_147 : decode cX12_become 147 = .ok (.return_, 1) := by decide +kernel
theorem dX12_write_0 : decode cX12_write 0 = .ok (.aload_n 0, 1) := by decide +kernel
theorem dX12_write_1 : decode cX12_write 1 = .ok (.iconst 0, 1) := by decide +kernel
theorem dX12_write_2 : decode cX12_write 2 = .ok (.putfield 91, 3) := by decide +kernel
theorem dX12_write_5 : decode cX12_write 5 = .ok (.iconst 0, 1) := by decide +kernel
theorem dX12_write_6 : decode cX12_write 6 = .ok (.istore 4, 2) := by decide +kernel
theorem dX12_write_8 : decode cX12_write 8 = .ok (.iload 4, 2) := by decide +kernel
theorem dX12_write_10 : decode cX12_write 10 = .ok (.iload_n 3, 1) := by decide +kernel
theorem dX12_write_11 : decode cX12_write 11 = .ok (.if_icmp .ge 29, 3) := by decide +kernel
theorem dX12_write_40 : decode cX12_write 40 = .ok (.iconst 1, 1) := by decide +kernel
theorem dX12_write_41 : decode cX12_write 41 = .ok (.ireturn, 1) := by decide +kernel
theorem dX12_read_0 : decode cX12_read 0 = .ok (.aload_n 0, 1) := by decide +kernel
theorem dX12_read_1 : decode cX12_read 1 = .ok (.iconst 0, 1) := by decide +kernel
theorem dX12_read_2 : decode cX12_read 2 = .ok (.putfield 119, 3) := by decide +kernel
theorem dX12_read_5 : decode cX12_read 5 = .ok (.iconst 0, 1) := by decide +kernel
theorem dX12_read_6 : decode cX12_read 6 = .ok (.istore_n 3, 1) := by decide +kernel
theorem dX12_read_7 : decode cX12_read 7 = .ok (.iload_n 3, 1) := by decide +kernel
theorem dX12_read_8 : decode cX12_read 8 = .ok (.aload_n 0, 1) := by decide +kernel
theorem dX12_read_9 : decode cX12_read 9 = .ok (.getfield 91, 3) := by decide +kernel
theorem dX12_read_12 : decode cX12_read 12 = .ok (.if_icmp .ge 77, 3) := by decide +kernel
theorem dX12_read_89 : decode cX12_read 89 = .ok (.iconst 1, 1) := by decide +kernel
theorem dX12_read_90 : decode cX12_read 90 = .ok (.ireturn, 1) := by decide +kernel
theorem dX12_does_0 : decode cX12_does 0 = .ok (.aload_n 0, 1) := by decide +kernel
theorem dX12_does_1 : decode cX12_does 1 = .ok (.iconst (-1), 1) := by decide +kernel
theorem dX12_does_2 : decode cX12_does 2 = .ok (.putfield 102, 3) := by decide +kernel
theorem dX12_does_5 : decode cX12_does 5 = .ok (.aload_n 0, 1) := by decide +kernel
theorem dX12_does_6 : decode cX12_does 6 = .ok (.iload_n 1, 1) := by decide +kernel
theorem dX12_does_7 : decode cX12_does 7 = .ok (.aload_n 3, 1) := by decide +kernel
theorem dX12_does_8 : decode cX12_does 8 = .ok (.iload 4, 2) := by decide +kernel
set_option maxRecDepth 20000 in
theorem ggX12_does_X12_write : GoodIn wsX12_does wsX12_write := goodIn_r _ [8, 2, 1, 9, 10, 11, 7, 12, 13, 14, 15, 16, 17, 18, 19, 44, 45, 46, 47, 48, 49, 50, 51, 52, 53, 54, 55, 56, 57, 58, 59, 60, 61, 62, 63, 64, 65, 66, 67, 68, 69, 70, 71, 72, 73, 74, 75, 76, 77, 78, 79, 80, 81, 82, 83] rfl (by decide +kernel)
set_option maxRecDepth 20000 in
theorem gX12_does_X12_write : GoodIn wsX12_does (wsV RX12 127 RX12 yX12_write wsX12_write) := goodIn_app (goodIn_r _ [4, 5, 6, 7] rfl (by decide +kernel)) ggX12_does_X12_write
theorem dX12_does_10 : decode cX12_does 10 = .ok (.invokevirtual 127, 3) := by decide +kernel
theorem dX12_does_13 : decode cX12_does 13 = .ok (.ifCond .ne 5, 3) := by decide +kernel
theorem dX12_does_18 : decode cX12_does 18 = .ok (.aload_n 0, 1) := by decide +kernel
theorem dX12_does_19 : decode cX12_does 19 = .ok (.getfield 91, 3) := by decide +kernel
theorem dX12_does_22 : decode cX12_does 22 = .ok (.sipush 900, 3) := by decide +kernel
theorem dX12_does_25 : decode cX12_does 25 = .ok (.if_icmp .le 5, 3) := by decide +kernel
theorem dX12_does_30 : decode cX12_does 30 = .ok (.aload_n 0, 1) := by decide +kernel
theorem dX12_does_31 : decode cX12_does 31 = .ok (.iload_n 2, 1) := by decide +kernel
theorem dX12_does_32 : decode cX12_does 32 = .ok (.iconst 0, 1) := by decide +kernel
set_option maxRecDepth 20000 in
theorem ggX12_does_X12_read : GoodIn wsX12_does wsX12_read := goodIn_r _ [23, 3, 2, 1, 24, 25, 26, 27, 28, 29, 7, 30, 19, 31, 32, 33, 34, 35, 36, 37, 38, 39, 40, 41, 14, 42, 43, 44, 45, 46, 47, 48, 49, 50, 51, 52, 53, 54, 55, 56, 57, 58, 59, 60, 61, 62, 63, 64, 65, 66, 67, 68, 69, 70, 71, 72, 73, 74, 75, 76, 77, 78, 79, 80, 81, 82, 83] rfl (by decide +kernel)
set_option maxRecDepth 20000 in
theorem gX12_does_X12_read : GoodIn wsX12_does (wsV RX12 131 RX12 yX12_read wsX12_read) := goodIn_app (goodIn_r _ [20, 21, 22, 7] rfl (by decide +kernel)) ggX12_does_X12_read
theorem dX12_does_33 : decode cX12_does 33 = .ok (.invokevirtual 131, 3) := by decide +kernel
theorem dX12_does_36 : decode cX12_does 36 = .ok (.ifCond .ne 5, 3) := by decide +kernel
theorem dX12_does_41 : decode cX12_does 41 = .ok (.aload_n 0, 1) := by decide +kernel
theorem dX12_does_42 : decode cX12_does 42 = .ok (.getfield 119, 3) := by decide +kernel
theorem dX12_does_45 : decode cX12_does 45 = .ok (.sipush 300, 3) := by decide +kernel
theorem dX12_does_48 : decode cX12_does 48 = .ok (.if_icmp .gt 7, 3) := by decide +kernel
theorem dX12_does_51 : decode cX12_does 51 = .ok (.iconst 1, 1) := by decide +kernel
theorem dX12_does_52 : decode cX12_does 52 = .ok (.goto 4, 3) := by decide +kernel
theorem dX12_does_56 : decode cX12_does 56 = .ok (.ireturn, 1) := by decide +kernel
theorem dX12_takeText_0 : decode cX12_takeText 0 = .ok (.aload_n 0, 1) := by decide +kernel
theorem dX12_takeText_1 : decode cX12_takeText 1 = .ok (.aload_n 0, 1) := by decide +kernel
theorem dX12_takeText_2 : decode cX12_takeText 2 = .ok (.getfield 13, 3) := by decide +kernel
theorem dX12_takeText_5 : decode cX12_takeText 5 = .ok (.iconst 0, 1) := by decide +kernel
theorem dX12_takeText_6 : decode cX12_takeText 6 = .ok (.iaload, 1) := by decide +kernel
theorem dX12_takeText_7 : decode cX12_takeText 7 = .ok (.putfield 135, 3) := by decide +kernel
theorem dX12_takeText_10 : decode cX12_takeText 10 = .ok (.iconst 0, 1) := by decide +kernel
theorem dX12_takeText_11 : decode cX12_takeText 11 = .ok (.istore_n 1, 1) := by decide +kernel
theorem dX12_takeText_12 : decode cX12_takeText 12 = .ok (.iload_n 1, 1) := by decide +kernel
theorem dX12_takeText_13 : decode cX12_takeText 13 = .ok (.aload_n 0, 1) := by decide +kernel
theorem dX12_takeText_14 : decode cX12_takeText 14 = .ok (.getfield 135, 3) := by decide +kernel
theorem dX12_takeText_17 : decode cX12_takeText 17 = .ok (.if_icmp .ge 21, 3) := by decide +kernel
theorem dX12_takeText_38 : decode cX12_takeText 38 = .ok (.return_, 1) := by decide +kernel
theorem dX12_undoes_0 : decode cX12_undoes 0 = .ok (.aload_n 0, 1) := by decide +kernel
theorem dX12_undoes_1 : decode cX12_undoes 1 = .ok (.iload_n 2, 1) := by decide +kernel
theorem dX12_undoes_2 : decode cX12_undoes 2 = .ok (.iload_n 1, 1) := by decide +kernel
theorem dX12_undoes_3 : decode cX12_undoes 3 = .ok (.aload_n 0, 1) := by decide +kernel
theorem dX12_undoes_4 : decode cX12_undoes 4 = .ok (.getfield 64, 3) := by decide +kernel
theorem dX12_undoes_7 : decode cX12_undoes 7 = .ok (.aload_n 0, 1) := by decide +kernel
theorem dX12_undoes_8 : decode cX12_undoes 8 = .ok (.getfield 135, 3) := by decide +kernel
set_option maxRecDepth 20000 in
theorem ggX12_undoes_X12_does : GoodIn wsX12_undoes wsX12_does := goodIn_r _ [11, 6, 12, 3, 13, 14, 15, 10, 16, 17, 18, 19, 20, 21, 22, 23, 24, 25, 26, 27, 28, 29, 30, 31, 5, 32, 33, 34, 35, 36, 37, 38, 39, 40, 41, 42, 43, 44, 45, 46, 47, 48, 49, 50, 51, 52, 53, 54, 55, 56, 57, 58, 59, 60, 61, 62, 63, 64, 65, 66, 67, 68, 69, 70, 71, 72, 73, 74, 75, 76, 77, 78, 79, 80, 81, 82, 83, 84, 85, 86, 87, 88, 89, 90] rfl (by decide +kernel)
set_option maxRecDepth 20000 in
theorem gX12_undoes_X12_does : GoodIn wsX12_undoes (wsV RX12 138 RX12 yX12_does wsX12_does) := goodIn_app (goodIn_r _ [7, 8, 9, 10] rfl (by decide +kernel)) ggX12_undoes_X12_does
theorem dX12_undoes_11 : decode cX12_undoes 11 = .ok (.invokevirtual 138, 3) := by decide +kernel
theorem dX12_undoes_14 : decode cX12_undoes 14 = .ok (.ifCond .ne 5, 3) := by decide +kernel
theorem dX12_undoes_19 : decode cX12_undoes 19 = .ok (.aload_n 0, 1) := by decide +kernel
theorem dX12_undoes_20 : decode cX12_undoes 20 = .ok (.getfield 119, 3) := by decide +kernel
theorem dX12_undoes_23 : decode cX12_undoes 23 = .ok (.istore_n 3, 1) := by decide +kernel
theorem dX12_undoes_24 : decode cX12_undoes 24 = .ok (.iconst 0, 1) := by decide +kernel
theorem dX12_undoes_25 : decode cX12_undoes 25 = .ok (.istore 4, 2) := by decide +kernel
theorem dX12_undoes_27 : decode cX12_undoes 27 = .ok (.iload 4, 2) := by decide +kernel
theorem dX12_undoes_29 : decode cX12_undoes 29 = .ok (.iload_n 3, 1) := by decide +kernel
theorem dX12_undoes_30 : decode cX12_undoes 30 = .ok (.if_icmp .ge 23, 3) := by decide +kernel
theorem dX12_undoes_53 : decode cX12_undoes 53 = .ok (.aload_n 0, 1) := by decide +kernel
theorem dX12_undoes_54 : decode cX12_undoes 54 = .ok (.iload_n 1, 1) := by decide +kernel
theorem dX12_undoes_55 : decode cX12_undoes 55 = .ok (.iload_n 2, 1) := by decide +kernel
theorem dX12_undoes_56 : decode cX12_undoes 56 = .ok (.aload_n 0, 1) := by decide +kernel
theorem dX12_undoes_57 : decode cX12_undoes 57 = .ok (.getfield 67, 3) := by decide +kernel
theorem dX12_undoes_60 : decode cX12_undoes 60 = .ok (.iload_n 3, 1) := by decide +kernel
theorem dX12_undoes_61 : decode cX12_undoes 61 = .ok (.invokevirtual 138, 3) := by decide +kernel
theorem dX12_undoes_64 : decode cX12_undoes 64 = .ok (.ifCond .eq 18, 3) := by decide +kernel
theorem dX12_undoes_67 : decode cX12_undoes 67 = .ok (.aload_n 0, 1) := by decide +kernel
theorem dX12_undoes_68 : decode cX12_undoes 68 = .ok (.getfield 119, 3) := by decide +kernel
theorem dX12_undoes_71 : decode cX12_undoes 71 = .ok (.aload_n 0, 1) := by decide +kernel
theorem dX12_undoes_72 : decode cX12_undoes 72 = .ok (.getfield 135, 3) := by decide +kernel
theorem dX12_undoes_75 : decode cX12_undoes 75 = .ok (.if_icmp .ne 7, 3) := by decide +kernel
theorem dX12_undoes_78 : decode cX12_undoes 78 = .ok (.iconst 1, 1) := by decide +kernel
theorem dX12_undoes_79 : decode cX12_undoes 79 = .ok (.goto 4, 3) := by decide +kernel
theorem dX12_undoes_83 : decode cX12_undoes 83 = .ok (.istore 4, 2) := by decide +kernel
theorem dX12_undoes_85 : decode cX12_undoes 85 = .ok (.iconst 0, 1) := by decide +kernel
theorem dX12_undoes_86 : decode cX12_undoes 86 = .ok (.istore 5, 2) := by decide +kernel
theorem dX12_undoes_88 : decode cX12_undoes 88 = .ok (.iload 4, 2) := by decide +kernel
theorem dX12_undoes_90 : decode cX12_undoes 90 = .ok (.ifCond .eq 42, 3) := by decide +kernel
theorem dX12_undoes_93 : decode cX12_undoes 93 = .ok (.iload 5, 2) := by decide +kernel
theorem dX12_undoes_95 : decode cX12_undoes 95 = .ok (.aload_n 0, 1) := by decide +kernel
theorem dX12_undoes_96 : decode cX12_undoes 96 = .ok (.getfield 135, 3) := by decide +kernel
theorem dX12_undoes_99 : decode cX12_undoes 99 = .ok (.if_icmp .ge 33, 3) := by decide +kernel
theorem dX12_undoes_132 : decode cX12_undoes 132 = .ok (.aload_n 0, 1) := by decide +kernel
theorem dX12_undoes_133 : decode cX12_undoes 133 = .ok (.iconst (-1), 1) := by decide +kernel
theorem dX12_undoes_134 : decode cX12_undoes 134 = .ok (.putfield 102, 3) := by decide +kernel
theorem dX12_undoes_137 : decode cX12_undoes 137 = .ok (.iload 4, 2) := by decide +kernel
theorem dX12_undoes_139 : decode cX12_undoes 139 = .ok (.ifCond .ne 5, 3) := by decide +kernel
theorem dX12_undoes_144 : decode cX12_undoes 144 = .ok (.iconst 0, 1) := by decide +kernel
theorem dX12_undoes_145 : decode cX12_undoes 145 = .ok (.istore 5, 2) := by decide +kernel
theorem dX12_undoes_147 : decode cX12_undoes 147 = .ok (.iload 5, 2) := by decide +kernel
theorem dX12_undoes_149 : decode cX12_undoes 149 = .ok (.iload_n 3, 1) := by decide +kernel
theorem dX12_undoes_150 : decode cX12_undoes 150 = .ok (.if_icmp .ge 23, 3) := by decide +kernel
theorem dX12_undoes_173 : decode cX12_undoes 173 = .ok (.aload_n 0, 1) := by decide +kernel
theorem dX12_undoes_174 : decode cX12_undoes 174 = .ok (.iload_n 3, 1) := by decide +kernel
theorem dX12_undoes_175 : decode cX12_undoes 175 = .ok (.putfield 135, 3) := by decide +kernel
theorem dX12_undoes_178 : decode cX12_undoes 178 = .ok (.iconst 1, 1) := by decide +kernel
theorem dX12_undoes_179 : decode cX12_undoes 179 = .ok (.ireturn, 1) := by decide +kernel
theorem dX12_marksOf_0 : decode cX12_marksOf 0 = .ok (.iconst 0, 1) := by decide +kernel
theorem dX12_marksOf_1 : decode cX12_marksOf 1 = .ok (.istore_n 1, 1) := by decide +kernel
theorem dX12_marksOf_2 : decode cX12_marksOf 2 = .ok (.iconst 0, 1) := by decide +kernel
theorem dX12_marksOf_3 : decode cX12_marksOf 3 = .ok (.istore_n 2, 1) := by decide +kernel
theorem dX12_marksOf_4 : decode cX12_marksOf 4 = .ok (.iload_n 2, 1) := by decide +kernel
theorem dX12_marksOf_5 : decode cX12_marksOf 5 = .ok (.aload_n 0, 1) := by decide +kernel
theorem dX12_marksOf_6 : decode cX12_marksOf 6 = .ok (.getfield 13, 3) := by decide +kernel
theorem dX12_marksOf_9 : decode cX12_marksOf 9 = .ok (.iconst 0, 1) := by decide +kernel
theorem dX12_marksOf_10 : decode cX12_marksOf 10 = .ok (.iaload, 1) := by decide +kernel
theorem dX12_marksOf_11 : decode cX12_marksOf 11 = .ok (.if_icmp .ge 23, 3) := by decide +kernel
theorem dX12_marksOf_34 : decode cX12_marksOf 34 = .ok (.iload_n 1, 1) := by decide +kernel
theorem dX12_marksOf_35 : decode cX12_marksOf 35 = .ok (.ireturn, 1) := by decide +kernel
theorem dX12_sortOf_0 : decode cX12_sortOf 0 = .ok (.iload_n 0, 1) := by decide +kernel
theorem dX12_sortOf_1 : decode cX12_sortOf 1 = .ok (.bipush 97, 2) := by decide +kernel
theorem dX12_sortOf_3 : decode cX12_sortOf 3 = .ok (.if_icmp .lt 11, 3) := by decide +kernel
theorem dX12_sortOf_14 : decode cX12_sortOf 14 = .ok (.iload_n 0, 1) := by decide +kernel
theorem dX12_sortOf_15 : decode cX12_sortOf 15 = .ok (.bipush 65, 2) := by decide +kernel
theorem dX12_sortOf_17 : decode cX12_sortOf 17 = .ok (.if_icmp .lt 11, 3) := by decide +kernel
theorem dX12_sortOf_28 : decode cX12_sortOf 28 = .ok (.iload_n 0, 1) := by decide +kernel
theorem dX12_sortOf_29 : decode cX12_sortOf 29 = .ok (.bipush 48, 2) := by decide +kernel
theorem dX12_sortOf_31 : decode cX12_sortOf 31 = .ok (.if_icmp .lt 11, 3) := by decide +kernel
theorem dX12_sortOf_42 : decode cX12_sortOf 42 = .ok (.iload_n 0, 1) := by decide +kernel
theorem dX12_sortOf_43 : decode cX12_sortOf 43 = .ok (.bipush 32, 2) := by decide +kernel
theorem dX12_sortOf_45 : decode cX12_sortOf 45 = .ok (.if_icmp .ne 5, 3) := by decide +kernel
theorem dX12_sortOf_48 : decode cX12_sortOf 48 = .ok (.iconst 4, 1) := by decide +kernel
theorem dX12_sortOf_49 : decode cX12_sortOf 49 = .ok (.ireturn, 1) := by decide +kernel
theorem dX12_costOf_0 : decode cX12_costOf 0 = .ok (.iconst 0, 1) := by decide +kernel
theorem dX12_costOf_1 : decode cX12_costOf 1 = .ok (.istore_n 3, 1) := by decide +kernel
theorem dX12_costOf_2 : decode cX12_costOf 2 = .ok (.iload_n 3, 1) := by decide +kernel
theorem dX12_costOf_3 : decode cX12_costOf 3 = .ok (.aload_n 0, 1) := by decide +kernel
theorem dX12_costOf_4 : decode cX12_costOf 4 = .ok (.getfield 168, 3) := by decide +kernel
theorem dX12_costOf_7 : decode cX12_costOf 7 = .ok (.if_icmp .ge 36, 3) := by decide +kernel
theorem dX12_costOf_43 : decode cX12_costOf 43 = .ok (.iload_n 1, 1) := by decide +kernel
set_option maxRecDepth 20000 in
theorem ggX12_costOf_X12_sortOf : GoodIn wsX12_costOf wsX12_sortOf := goodIn_r _ [8] rfl (by decide +kernel)
set_option maxRecDepth 20000 in
theorem gX12_costOf_X12_sortOf : GoodIn wsX12_costOf (va_wsS RX12 193 yX12_sortOf wsX12_sortOf) := goodIn_app (goodIn_r _ [5, 6, 7] rfl (by decide +kernel)) ggX12_costOf_X12_sortOf
theorem dX12_costOf_44 : decode cX12_costOf 44 = .ok (.invokestatic 193, 3) := by decide +kernel
theorem dX12_costOf_47 : decode cX12_costOf 47 = .ok (.istore_n 3, 1) := by decide +kernel
theorem dX12_costOf_48 : decode cX12_costOf 48 = .ok (.iload_n 2, 1) := by decide +kernel
theorem dX12_costOf_49 : decode cX12_costOf 49 = .ok (.invokestatic 193, 3) := by decide +kernel
theorem dX12_costOf_52 : decode cX12_costOf 52 = .ok (.istore 4, 2) := by decide +kernel
theorem dX12_costOf_54 : decode cX12_costOf 54 = .ok (.iload_n 3, 1) := by decide +kernel
theorem dX12_costOf_55 : decode cX12_costOf 55 = .ok (.iload 4, 2) := by decide +kernel
theorem dX12_costOf_57 : decode cX12_costOf 57 = .ok (.if_icmp .ne 7, 3) := by decide +kernel
theorem dX12_costOf_60 : decode cX12_costOf 60 = .ok (.iconst 4, 1) := by decide +kernel
theorem dX12_costOf_61 : decode cX12_costOf 61 = .ok (.goto 5, 3) := by decide +kernel
theorem dX12_costOf_66 : decode cX12_costOf 66 = .ok (.iload_n 3, 1) := by decide +kernel
theorem dX12_costOf_67 : decode cX12_costOf 67 = .ok (.ifCond .ne 8, 3) := by decide +kernel
theorem dX12_costOf_75 : decode cX12_costOf 75 = .ok (.iconst 0, 1) := by decide +kernel
theorem dX12_costOf_76 : decode cX12_costOf 76 = .ok (.iadd, 1) := by decide +kernel
theorem dX12_costOf_77 : decode cX12_costOf 77 = .ok (.iload 4, 2) := by decide +kernel
theorem dX12_costOf_79 : decode cX12_costOf 79 = .ok (.ifCond .ne 8, 3) := by decide +kernel
theorem dX12_costOf_87 : decode cX12_costOf 87 = .ok (.iconst 0, 1) := by decide +kernel
theorem dX12_costOf_88 : decode cX12_costOf 88 = .ok (.iadd, 1) := by decide +kernel
theorem dX12_costOf_89 : decode cX12_costOf 89 = .ok (.ireturn, 1) := by decide +kernel
theorem dX12_costOf__0 : decode cX12_costOf_ 0 = .ok (.iconst 0, 1) := by decide +kernel
theorem dX12_costOf__1 : decode cX12_costOf_ 1 = .ok (.istore 4, 2) := by decide +kernel
theorem dX12_costOf__3 : decode cX12_costOf_ 3 = .ok (.bipush 32, 2) := by decide +kernel
theorem dX12_costOf__5 : decode cX12_costOf_ 5 = .ok (.istore 5, 2) := by decide +kernel
theorem dX12_costOf__7 : decode cX12_costOf_ 7 = .ok (.iload_n 2, 1) := by decide +kernel
theorem dX12_costOf__8 : decode cX12_costOf_ 8 = .ok (.istore 6, 2) := by decide +kernel
theorem dX12_costOf__10 : decode cX12_costOf_ 10 = .ok (.iload 6, 2) := by decide +kernel
theorem dX12_costOf__12 : decode cX12_costOf_ 12 = .ok (.iload_n 3, 1) := by decide +kernel
theorem dX12_costOf__13 : decode cX12_costOf_ 13 = .ok (.if_icmp .ge 30, 3) := by decide +kernel
theorem dX12_costOf__43 : decode cX12_costOf_ 43 = .ok (.iload 4, 2) := by decide +kernel
theorem dX12_costOf__45 : decode cX12_costOf_ 45 = .ok (.aload_n 0, 1) := by decide +kernel
theorem dX12_costOf__46 : decode cX12_costOf_ 46 = .ok (.iload 5, 2) := by decide +kernel
theorem dX12_costOf__48 : decode cX12_costOf_ 48 = .ok (.bipush 32, 2) := by decide +kernel
set_option maxRecDepth 20000 in
theorem ggX12_costOf__X12_costOf : GoodIn wsX12_costOf_ wsX12_costOf := goodIn_r _ [5, 6, 7, 8, 9, 10, 11, 4, 12, 13, 14, 15, 16, 17, 18, 19, 20, 21, 22, 23, 24, 25, 26, 27, 28, 29, 30, 31, 32, 33, 34, 35, 36, 37, 38, 39, 40, 41, 42, 43, 44, 45, 46, 47, 48, 49, 50, 51, 52] rfl (by decide +kernel)
set_option maxRecDepth 20000 in
theorem gX12_costOf__X12_costOf : GoodIn wsX12_costOf_ (wsV RX12 196 RX12 yX12_costOf wsX12_costOf) := goodIn_app (goodIn_r _ [1, 2, 3, 4] rfl (by decide +kernel)) ggX12_costOf__X12_costOf
theorem dX12_costOf__50 : decode cX12_costOf_ 50 = .ok (.invokevirtual 196, 3) := by decide +kernel
theorem dX12_costOf__53 : decode cX12_costOf_ 53 = .ok (.iadd, 1) := by decide +kernel
theorem dX12_costOf__54 : decode cX12_costOf_ 54 = .ok (.ireturn, 1) := by decide +kernel
theorem dX12_isToldChoice_0 : decode cX12_isToldChoice 0 = .ok (.iload_n 1, 1) := by decide +kernel
theorem dX12_isToldChoice_1 : decode cX12_isToldChoice 1 = .ok (.ifCond .lt 22, 3) := by decide +kernel
theorem dX12_isToldChoice_23 : decode cX12_isToldChoice 23 = .ok (.iconst 0, 1) := by decide +kernel
theorem dX12_isToldChoice_24 : decode cX12_isToldChoice 24 = .ok (.ireturn, 1) := by decide +kernel
theorem dX12_isToldChoice_4 : decode cX12_isToldChoice 4 = .ok (.iload_n 1, 1) := by decide +kernel
theorem dX12_isToldChoice_5 : decode cX12_isToldChoice 5 = .ok (.aload_n 0, 1) := by decide +kernel
theorem dX12_isToldChoice_6 : decode cX12_isToldChoice 6 = .ok (.getfield 213, 3) := by decide +kernel
theorem dX12_isToldChoice_9 : decode cX12_isToldChoice 9 = .ok (.if_icmp .ge 14, 3) := by decide +kernel
