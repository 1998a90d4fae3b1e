theorem dX12_writeWith_0 : decode cX12_writeWith 0 = .ok (.aload_n 0, 1) := by decide +kernel
theorem dX12_writeWith_1 : decode cX12_writeWith 1 = .ok (.iconst 0, 1) := by decide +kernel
theorem dX12_writeWith_2 : decode cX12_writeWith 2 = .ok (.putfield 91, 3) := by decide +kernel
theorem dX12_writeWith_5 : decode cX12_writeWith 5 = .ok (.iconst 1, 1) := by decide +kernel
theorem dX12_writeWith_6 : decode cX12_writeWith 6 = .ok (.istore 4, 2) := by decide +kernel
theorem dX12_writeWith_8 : decode cX12_writeWith 8 = .ok (.iconst 0, 1) := by decide +kernel
theorem dX12_writeWith_9 : decode cX12_writeWith 9 = .ok (.istore 5, 2) := by decide +kernel
theorem dX12_writeWith_11 : decode cX12_writeWith 11 = .ok (.iload 5, 2) := by decide +kernel
theorem dX12_writeWith_13 : decode cX12_writeWith 13 = .ok (.aload_n 0, 1) := by decide +kernel
theorem dX12_writeWith_14 : decode cX12_writeWith 14 = .ok (.getfield 13, 3) := by decide +kernel
theorem dX12_writeWith_17 : decode cX12_writeWith 17 = .ok (.iconst 0, 1) := by decide +kernel
theorem dX12_writeWith_18 : decode cX12_writeWith 18 = .ok (.iaload, 1) := by decide +kernel
theorem dX12_writeWith_19 : decode cX12_writeWith 19 = .ok (.if_icmp .ge 64, 3) := by decide +kernel
theorem dX12_writeWith_83 : decode cX12_writeWith 83 = .ok (.iconst 1, 1) := by decide +kernel
theorem dX12_writeWith_84 : decode cX12_writeWith 84 = .ok (.ireturn, 1) := by decide +kernel
theorem dX12_writeWith_22 : decode cX12_writeWith 22 = .ok (.aload_n 0, 1) := by decide +kernel
theorem dX12_writeWith_23 : decode cX12_writeWith 23 = .ok (.getfield 16, 3) := by decide +kernel
theorem dX12_writeWith_26 : decode cX12_writeWith 26 = .ok (.iload 5, 2) := by decide +kernel
theorem dX12_writeWith_28 : decode cX12_writeWith 28 = .ok (.iaload, 1) := by decide +kernel
theorem dX12_writeWith_29 : decode cX12_writeWith 29 = .ok (.ldc 126, 2) := by decide +kernel
theorem dX12_writeWith_31 : decode cX12_writeWith 31 = .ok (.if_icmp .ne 23, 3) := by decide +kernel
theorem dX12_writeWith_54 : decode cX12_writeWith 54 = .ok (.aload_n 0, 1) := by decide +kernel
theorem dX12_writeWith_55 : decode cX12_writeWith 55 = .ok (.iload_n 1, 1) := by decide +kernel
theorem dX12_writeWith_56 : decode cX12_writeWith 56 = .ok (.aload_n 0, 1) := by decide +kernel
theorem dX12_writeWith_57 : decode cX12_writeWith 57 = .ok (.getfield 16, 3) := by decide +kernel
theorem dX12_writeWith_60 : decode cX12_writeWith 60 = .ok (.iload 5, 2) := by decide +kernel
theorem dX12_writeWith_62 : decode cX12_writeWith 62 = .ok (.iaload, 1) := by decide +kernel
set_option maxRecDepth 20000 in
theorem ggX12_writeWith_X12_writeLetter : GoodIn wsX12_writeWith wsX12_writeLetter := goodIn_r _ [15, 16, 17, 6, 7, 8, 9, 10, 11, 1, 18, 19, 20, 21, 22, 23, 24, 25, 26, 27, 28, 29, 30, 31, 32, 33, 34, 35, 36, 37, 38, 39, 40, 41, 42, 43, 44, 45, 46, 47, 48, 49, 50, 51, 52, 53, 54, 55, 56, 57] rfl (by decide +kernel)
set_option maxRecDepth 20000 in
theorem gX12_writeWith_X12_writeLetter : GoodIn wsX12_writeWith (wsV RX12 98 RX12 yX12_writeLetter wsX12_writeLetter) := goodIn_app (goodIn_r _ [12, 13, 14, 9] rfl (by decide +kernel)) ggX12_writeWith_X12_writeLetter
theorem dX12_writeWith_63 : decode cX12_writeWith 63 = .ok (.invokevirtual 98, 3) := by decide +kernel
theorem dX12_writeWith_66 : decode cX12_writeWith 66 = .ok (.ifCond .ne 11, 3) := by decide +kernel
theorem dX12_writeWith_77 : decode cX12_writeWith 77 = .ok (.iinc 5 1, 3) := by decide +kernel
theorem dX12_writeWith_80 : decode cX12_writeWith 80 = .ok (.goto (-69), 3) := by decide +kernel
theorem dX12_writeWith_69 : decode cX12_writeWith 69 = .ok (.aload_n 0, 1) := by decide +kernel
theorem dX12_writeWith_70 : decode cX12_writeWith 70 = .ok (.iload 5, 2) := by decide +kernel
theorem dX12_writeWith_72 : decode cX12_writeWith 72 = .ok (.putfield 102, 3) := by decide +kernel
theorem dX12_writeWith_75 : decode cX12_writeWith 75 = .ok (.iconst 0, 1) := by decide +kernel
theorem dX12_writeWith_76 : decode cX12_writeWith 76 = .ok (.ireturn, 1) := by decide +kernel
theorem dX12_writeWith_34 : decode cX12_writeWith 34 = .ok (.aload_n 0, 1) := by decide +kernel
theorem dX12_writeWith_35 : decode cX12_writeWith 35 = .ok (.iload 4, 2) := by decide +kernel
theorem dX12_writeWith_37 : decode cX12_writeWith 37 = .ok (.ifCond .eq 7, 3) := by decide +kernel
theorem dX12_writeWith_44 : decode cX12_writeWith 44 = .ok (.iload_n 3, 1) := by decide +kernel
set_option maxRecDepth 20000 in
theorem ggX12_writeWith_X12_put : GoodIn wsX12_writeWith wsX12_put := goodIn_r _ [10, 11, 1, 18, 19, 20, 21, 22, 23, 24, 25, 26, 27, 28, 29, 30, 31, 32, 33, 34, 35, 36, 37, 38, 39, 40, 41, 42, 43, 44, 45, 46, 47, 48, 49, 50, 51, 52, 53, 54, 55, 56, 57] rfl (by decide +kernel)
set_option maxRecDepth 20000 in
theorem gX12_writeWith_X12_put : GoodIn wsX12_writeWith (wsV RX12 94 RX12 yX12_put wsX12_put) := goodIn_app (goodIn_r _ [6, 7, 8, 9] rfl (by decide +kernel)) ggX12_writeWith_X12_put
theorem dX12_writeWith_45 : decode cX12_writeWith 45 = .ok (.invokevirtual 94, 3) := by decide +kernel
theorem dX12_writeWith_48 : decode cX12_writeWith 48 = .ok (.iconst 0, 1) := by decide +kernel
theorem dX12_writeWith_49 : decode cX12_writeWith 49 = .ok (.istore 4, 2) := by decide +kernel
theorem dX12_writeWith_51 : decode cX12_writeWith 51 = .ok (.goto 26, 3) := by decide +kernel
theorem dX12_writeWith_40 : decode cX12_writeWith 40 = .ok (.iload_n 2, 1) := by decide +kernel
theorem dX12_writeWith_41 : decode cX12_writeWith 41 = .ok (.goto 4, 3) := by decide +kernel
theorem dX12_isAlone_0 : decode cX12_isAlone 0 = .ok (.aload_n 0, 1) := by decide +kernel
theorem dX12_isAlone_1 : decode cX12_isAlone 1 = .ok (.getfield 58, 3) := by decide +kernel
theorem dX12_isAlone_4 : decode cX12_isAlone 4 = .ok (.iconst 0, 1) := by decide +kernel
theorem dX12_isAlone_5 : decode cX12_isAlone 5 = .ok (.iload_n 2, 1) := by decide +kernel
theorem dX12_isAlone_6 : decode cX12_isAlone 6 = .ok (.iastore, 1) := by decide +kernel
theorem dX12_isAlone_7 : decode cX12_isAlone 7 = .ok (.aload_n 0, 1) := by decide +kernel
theorem dX12_isAlone_8 : decode cX12_isAlone 8 = .ok (.iconst 1, 1) := by decide +kernel
theorem dX12_isAlone_9 : decode cX12_isAlone 9 = .ok (.putfield 91, 3) := by decide +kernel
theorem dX12_isAlone_12 : decode cX12_isAlone 12 = .ok (.aload_n 0, 1) := by decide +kernel
theorem dX12_isAlone_13 : decode cX12_isAlone 13 = .ok (.iload_n 1, 1) := by decide +kernel
theorem dX12_isAlone_14 : decode cX12_isAlone 14 = .ok (.iconst 0, 1) := by decide +kernel
set_option maxRecDepth 20000 in
theorem ggX12_isAlone_X12_readAt : GoodIn wsX12_isAlone wsX12_readAt := goodIn_r _ [7, 1, 8, 9, 10, 11, 12, 6, 13, 2, 14, 15, 16, 17, 18, 19, 20, 21, 22, 23, 24, 25, 26, 27, 28, 29, 30, 31, 32, 33, 34, 35, 36, 37, 38, 39, 40, 41, 42, 43, 44, 45, 46, 47, 48, 49, 50, 51, 52, 53, 54, 55, 56, 57, 58, 59, 60, 61, 62] rfl (by decide +kernel)
set_option maxRecDepth 20000 in
theorem gX12_isAlone_X12_readAt : GoodIn wsX12_isAlone (wsV RX12 122 RX12 yX12_readAt wsX12_readAt) := goodIn_app (goodIn_r _ [3, 4, 5, 6] rfl (by decide +kernel)) ggX12_isAlone_X12_readAt
theorem dX12_isAlone_15 : decode cX12_isAlone 15 = .ok (.invokevirtual 122, 3) := by decide +kernel
theorem dX12_isAlone_18 : decode cX12_isAlone 18 = .ok (.ifCond .le 7, 3) := by decide +kernel
theorem dX12_isAlone_25 : decode cX12_isAlone 25 = .ok (.iconst 0, 1) := by decide +kernel
theorem dX12_isAlone_26 : decode cX12_isAlone 26 = .ok (.ireturn, 1) := by decide +kernel
theorem dX12_isAlone_21 : decode cX12_isAlone 21 = .ok (.iconst 1, 1) := by decide +kernel
theorem dX12_isAlone_22 : decode cX12_isAlone 22 = .ok (.goto 4, 3) := by decide +kernel
