theorem dX12_size_0 : decode cX12_size 0 = .ok (.aload_n 0, 1) := by decide +kernel
theorem dX12_size_1 : decode cX12_size 1 = .ok (.iconst 0, 1) := by decide +kernel
theorem dX12_size_2 : decode cX12_size 2 = .ok (.putfield 85, 3) := by decide +kernel
theorem dX12_size_5 : decode cX12_size 5 = .ok (.aload_n 0, 1) := by decide +kernel
theorem dX12_size_6 : decode cX12_size 6 = .ok (.iconst (-1), 1) := by decide +kernel
theorem dX12_size_7 : decode cX12_size 7 = .ok (.putfield 55, 3) := by decide +kernel
theorem dX12_size_10 : decode cX12_size 10 = .ok (.iload_n 1, 1) := by decide +kernel
set_option maxRecDepth 20000 in
theorem ggX12_size_X12_isCode : GoodIn wsX12_size wsX12_isCode := goodIn_r _ [10] rfl (by decide +kernel)
set_option maxRecDepth 20000 in
theorem gX12_size_X12_isCode : GoodIn wsX12_size (va_wsS RX12 158 yX12_isCode wsX12_isCode) := goodIn_app (goodIn_r _ [7, 8, 9] rfl (by decide +kernel)) ggX12_size_X12_isCode
theorem dX12_size_11 : decode cX12_size 11 = .ok (.invokestatic 158, 3) := by decide +kernel
theorem dX12_size_14 : decode cX12_size 14 = .ok (.ifCond .ne 5, 3) := by decide +kernel
theorem dX12_size_19 : decode cX12_size 19 = .ok (.aload_n 0, 1) := by decide +kernel
theorem dX12_size_20 : decode cX12_size 20 = .ok (.iload_n 1, 1) := by decide +kernel
theorem dX12_size_21 : decode cX12_size 21 = .ok (.aload_n 0, 1) := by decide +kernel
theorem dX12_size_22 : decode cX12_size 22 = .ok (.getfield 16, 3) := by decide +kernel
theorem dX12_size_25 : decode cX12_size 25 = .ok (.aload_n 0, 1) := by decide +kernel
theorem dX12_size_26 : decode cX12_size 26 = .ok (.getfield 13, 3) := by decide +kernel
theorem dX12_size_29 : decode cX12_size 29 = .ok (.iconst 0, 1) := by decide +kernel
theorem dX12_size_30 : decode cX12_size 30 = .ok (.iaload, 1) := by decide +kernel
set_option maxRecDepth 20000 in
theorem ggX12_size_X12_write : GoodIn wsX12_size wsX12_write := goodIn_r _ [14, 6, 5, 15, 16, 17, 9, 18, 19, 20, 21, 22, 23, 24, 25, 26, 27, 28, 29, 30, 31, 32, 33, 34, 35, 36, 37, 38, 39, 40, 41, 42, 43, 44, 45, 46, 47, 48, 49, 50, 51, 52, 53, 54, 55, 56, 57, 58, 59, 60, 61, 62, 63, 64, 65] rfl (by decide +kernel)
set_option maxRecDepth 20000 in
theorem gX12_size_X12_write : GoodIn wsX12_size (wsV RX12 127 RX12 yX12_write wsX12_write) := goodIn_app (goodIn_r _ [11, 12, 13, 9] rfl (by decide +kernel)) ggX12_size_X12_write
theorem dX12_size_31 : decode cX12_size 31 = .ok (.invokevirtual 127, 3) := by decide +kernel
theorem dX12_size_34 : decode cX12_size 34 = .ok (.ifCond .ne 13, 3) := by decide +kernel
theorem dX12_size_47 : decode cX12_size 47 = .ok (.aload_n 0, 1) := by decide +kernel
theorem dX12_size_48 : decode cX12_size 48 = .ok (.getfield 91, 3) := by decide +kernel
theorem dX12_size_51 : decode cX12_size 51 = .ok (.ireturn, 1) := by decide +kernel
theorem dX12_size_37 : decode cX12_size 37 = .ok (.aload_n 0, 1) := by decide +kernel
theorem dX12_size_38 : decode cX12_size 38 = .ok (.aload_n 0, 1) := by decide +kernel
theorem dX12_size_39 : decode cX12_size 39 = .ok (.getfield 102, 3) := by decide +kernel
theorem dX12_size_42 : decode cX12_size 42 = .ok (.putfield 55, 3) := by decide +kernel
theorem dX12_size_45 : decode cX12_size 45 = .ok (.iconst (-1), 1) := by decide +kernel
theorem dX12_size_46 : decode cX12_size 46 = .ok (.ireturn, 1) := by decide +kernel
theorem dX12_size_17 : decode cX12_size 17 = .ok (.iconst (-1), 1) := by decide +kernel
theorem dX12_size_18 : decode cX12_size 18 = .ok (.ireturn, 1) := by decide +kernel
theorem dX12_byteOf_0 : decode cX12_byteOf 0 = .ok (.aload_n 0, 1) := by decide +kernel
theorem dX12_byteOf_1 : decode cX12_byteOf 1 = .ok (.iconst 0, 1) := by decide +kernel
theorem dX12_byteOf_2 : decode cX12_byteOf 2 = .ok (.putfield 85, 3) := by decide +kernel
theorem dX12_byteOf_5 : decode cX12_byteOf 5 = .ok (.aload_n 0, 1) := by decide +kernel
theorem dX12_byteOf_6 : decode cX12_byteOf 6 = .ok (.iconst (-1), 1) := by decide +kernel
theorem dX12_byteOf_7 : decode cX12_byteOf 7 = .ok (.putfield 55, 3) := by decide +kernel
theorem dX12_byteOf_10 : decode cX12_byteOf 10 = .ok (.iload_n 1, 1) := by decide +kernel
set_option maxRecDepth 20000 in
theorem ggX12_byteOf_X12_isCode : GoodIn wsX12_byteOf wsX12_isCode := goodIn_r _ [11] rfl (by decide +kernel)
set_option maxRecDepth 20000 in
theorem gX12_byteOf_X12_isCode : GoodIn wsX12_byteOf (va_wsS RX12 158 yX12_isCode wsX12_isCode) := goodIn_app (goodIn_r _ [8, 9, 10] rfl (by decide +kernel)) ggX12_byteOf_X12_isCode
theorem dX12_byteOf_11 : decode cX12_byteOf 11 = .ok (.invokestatic 158, 3) := by decide +kernel
theorem dX12_byteOf_14 : decode cX12_byteOf 14 = .ok (.ifCond .ne 5, 3) := by decide +kernel
theorem dX12_byteOf_19 : decode cX12_byteOf 19 = .ok (.aload_n 0, 1) := by decide +kernel
theorem dX12_byteOf_20 : decode cX12_byteOf 20 = .ok (.iload_n 1, 1) := by decide +kernel
theorem dX12_byteOf_21 : decode cX12_byteOf 21 = .ok (.aload_n 0, 1) := by decide +kernel
theorem dX12_byteOf_22 : decode cX12_byteOf 22 = .ok (.getfield 16, 3) := by decide +kernel
theorem dX12_byteOf_25 : decode cX12_byteOf 25 = .ok (.aload_n 0, 1) := by decide +kernel
theorem dX12_byteOf_26 : decode cX12_byteOf 26 = .ok (.getfield 13, 3) := by decide +kernel
theorem dX12_byteOf_29 : decode cX12_byteOf 29 = .ok (.iconst 0, 1) := by decide +kernel
theorem dX12_byteOf_30 : decode cX12_byteOf 30 = .ok (.iaload, 1) := by decide +kernel
set_option maxRecDepth 20000 in
theorem ggX12_byteOf_X12_write : GoodIn wsX12_byteOf wsX12_write := goodIn_r _ [15, 6, 5, 16, 17, 18, 10, 19, 20, 21, 22, 23, 24, 25, 7, 26, 27, 28, 29, 30, 31, 32, 33, 34, 35, 36, 37, 38, 39, 40, 41, 42, 43, 44, 45, 46, 47, 48, 49, 50, 51, 52, 53, 54, 55, 56, 57, 58, 59, 60, 61, 62, 63, 64, 65] rfl (by decide +kernel)
set_option maxRecDepth 20000 in
theorem gX12_byteOf_X12_write : GoodIn wsX12_byteOf (wsV RX12 127 RX12 yX12_write wsX12_write) := goodIn_app (goodIn_r _ [12, 13, 14, 10] rfl (by decide +kernel)) ggX12_byteOf_X12_write
theorem dX12_byteOf_31 : decode cX12_byteOf 31 = .ok (.invokevirtual 127, 3) := by decide +kernel
theorem dX12_byteOf_34 : decode cX12_byteOf 34 = .ok (.ifCond .ne 13, 3) := by decide +kernel
theorem dX12_byteOf_47 : decode cX12_byteOf 47 = .ok (.iload_n 2, 1) := by decide +kernel
theorem dX12_byteOf_48 : decode cX12_byteOf 48 = .ok (.ifCond .lt 20, 3) := by decide +kernel
theorem dX12_byteOf_68 : decode cX12_byteOf 68 = .ok (.iconst (-1), 1) := by decide +kernel
theorem dX12_byteOf_69 : decode cX12_byteOf 69 = .ok (.ireturn, 1) := by decide +kernel
theorem dX12_byteOf_51 : decode cX12_byteOf 51 = .ok (.iload_n 2, 1) := by decide +kernel
theorem dX12_byteOf_52 : decode cX12_byteOf 52 = .ok (.aload_n 0, 1) := by decide +kernel
theorem dX12_byteOf_53 : decode cX12_byteOf 53 = .ok (.getfield 91, 3) := by decide +kernel
theorem dX12_byteOf_56 : decode cX12_byteOf 56 = .ok (.if_icmp .ge 12, 3) := by decide +kernel
theorem dX12_byteOf_59 : decode cX12_byteOf 59 = .ok (.aload_n 0, 1) := by decide +kernel
theorem dX12_byteOf_60 : decode cX12_byteOf 60 = .ok (.getfield 58, 3) := by decide +kernel
theorem dX12_byteOf_63 : decode cX12_byteOf 63 = .ok (.iload_n 2, 1) := by decide +kernel
theorem dX12_byteOf_64 : decode cX12_byteOf 64 = .ok (.iaload, 1) := by decide +kernel
theorem dX12_byteOf_65 : decode cX12_byteOf 65 = .ok (.goto 4, 3) := by decide +kernel
theorem dX12_byteOf_37 : decode cX12_byteOf 37 = .ok (.aload_n 0, 1) := by decide +kernel
theorem dX12_byteOf_38 : decode cX12_byteOf 38 = .ok (.aload_n 0, 1) := by decide +kernel
theorem dX12_byteOf_39 : decode cX12_byteOf 39 = .ok (.getfield 102, 3) := by decide +kernel
theorem dX12_byteOf_42 : decode cX12_byteOf 42 = .ok (.putfield 55, 3) := by decide +kernel
theorem dX12_byteOf_45 : decode cX12_byteOf 45 = .ok (.iconst (-1), 1) := by decide +kernel
theorem dX12_byteOf_46 : decode cX12_byteOf 46 = .ok (.ireturn, 1) := by decide +kernel
theorem dX12_byteOf_17 : decode cX12_byteOf 17 = .ok (.iconst (-1), 1) := by decide +kernel
theorem dX12_byteOf_18 : decode cX12_byteOf 18 = .ok (.ireturn, 1) := by decide +kernel
theorem dX12_canCome_0 : decode cX12_canCome 0 = .ok (.iload_n 1, 1) := by decide +kernel
theorem dX12_canCome_1 : decode cX12_canCome 1 = .ok (.ifCond .eq 8, 3) := by decide +kernel
theorem dX12_canCome_9 : decode cX12_canCome 9 = .ok (.iload_n 2, 1) := by decide +kernel
theorem dX12_canCome_10 : decode cX12_canCome 10 = .ok (.sipush 128, 3) := by decide +kernel
theorem dX12_canCome_13 : decode cX12_canCome 13 = .ok (.if_icmp .ge 7, 3) := by decide +kernel
theorem dX12_canCome_20 : decode cX12_canCome 20 = .ok (.iconst 0, 1) := by decide +kernel
theorem dX12_canCome_21 : decode cX12_canCome 21 = .ok (.ireturn, 1) := by decide +kernel
theorem dX12_canCome_16 : decode cX12_canCome 16 = .ok (.iconst 1, 1) := by decide +kernel
theorem dX12_canCome_17 : decode cX12_canCome 17 = .ok (.goto 4, 3) := by decide +kernel
theorem dX12_canCome_4 : decode cX12_canCome 4 = .ok (.iload_n 1, 1) := by decide +kernel
theorem dX12_canCome_5 : decode cX12_canCome 5 = .ok (.iconst 3, 1) := by decide +kernel
theorem dX12_canCome_6 : decode cX12_canCome 6 = .ok (.if_icmp .ne 16, 3) := by decide +kernel
theorem dX12_canCome_22 : decode cX12_canCome 22 = .ok (.iload_n 1, 1) := by decide +kernel
theorem dX12_canCome_23 : decode cX12_canCome 23 = .ok (.iconst 1, 1) := by decide +kernel
theorem dX12_canCome_24 : decode cX12_canCome 24 = .ok (.if_icmp .ne 5, 3) := by decide +kernel
theorem dX12_canCome_29 : decode cX12_canCome 29 = .ok (.iload_n 1, 1) := by decide +kernel
theorem dX12_canCome_30 : decode cX12_canCome 30 = .ok (.iconst 2, 1) := by decide +kernel
theorem dX12_canCome_31 : decode cX12_canCome 31 = .ok (.if_icmp .ne 30, 3) := by decide +kernel
theorem dX12_canCome_61 : decode cX12_canCome 61 = .ok (.aload_n 0, 1) := by decide +kernel
theorem dX12_canCome_62 : decode cX12_canCome 62 = .ok (.getfield 19, 3) := by decide +kernel
theorem dX12_canCome_65 : decode cX12_canCome 65 = .ok (.sipush 256, 3) := by decide +kernel
theorem dX12_canCome_68 : decode cX12_canCome 68 = .ok (.iload_n 1, 1) := by decide +kernel
theorem dX12_canCome_69 : decode cX12_canCome 69 = .ok (.iconst 4, 1) := by decide +kernel
theorem dX12_canCome_70 : decode cX12_canCome 70 = .ok (.isub, 1) := by decide +kernel
theorem dX12_canCome_71 : decode cX12_canCome 71 = .ok (.imul, 1) := by decide +kernel
theorem dX12_canCome_72 : decode cX12_canCome 72 = .ok (.iload_n 2, 1) := by decide +kernel
theorem dX12_canCome_73 : decode cX12_canCome 73 = .ok (.iadd, 1) := by decide +kernel
theorem dX12_canCome_74 : decode cX12_canCome 74 = .ok (.iaload, 1) := by decide +kernel
theorem dX12_canCome_75 : decode cX12_canCome 75 = .ok (.iconst (-1), 1) := by decide +kernel
theorem dX12_canCome_76 : decode cX12_canCome 76 = .ok (.if_icmp .eq 7, 3) := by decide +kernel
theorem dX12_canCome_83 : decode cX12_canCome 83 = .ok (.iconst 0, 1) := by decide +kernel
theorem dX12_canCome_84 : decode cX12_canCome 84 = .ok (.ireturn, 1) := by decide +kernel
theorem dX12_canCome_79 : decode cX12_canCome 79 = .ok (.iconst 1, 1) := by decide +kernel
theorem dX12_canCome_80 : decode cX12_canCome 80 = .ok (.goto 4, 3) := by decide +kernel
theorem dX12_canCome_34 : decode cX12_canCome 34 = .ok (.iload_n 2, 1) := by decide +kernel
theorem dX12_canCome_35 : decode cX12_canCome 35 = .ok (.sipush 192, 3) := by decide +kernel
theorem dX12_canCome_38 : decode cX12_canCome 38 = .ok (.if_icmp .lt 17, 3) := by decide +kernel
theorem dX12_canCome_55 : decode cX12_canCome 55 = .ok (.iconst 1, 1) := by decide +kernel
theorem dX12_canCome_56 : decode cX12_canCome 56 = .ok (.goto 4, 3) := by decide +kernel
theorem dX12_canCome_60 : decode cX12_canCome 60 = .ok (.ireturn, 1) := by decide +kernel
theorem dX12_canCome_41 : decode cX12_canCome 41 = .ok (.iload_n 2, 1) := by decide +kernel
theorem dX12_canCome_42 : decode cX12_canCome 42 = .ok (.sipush 193, 3) := by decide +kernel
theorem dX12_canCome_45 : decode cX12_canCome 45 = .ok (.if_icmp .le 14, 3) := by decide +kernel
theorem dX12_canCome_59 : decode cX12_canCome 59 = .ok (.iconst 0, 1) := by decide +kernel
theorem dX12_canCome_48 : decode cX12_canCome 48 = .ok (.iload_n 2, 1) := by decide +kernel
theorem dX12_canCome_49 : decode cX12_canCome 49 = .ok (.sipush 240, 3) := by decide +kernel
theorem dX12_canCome_52 : decode cX12_canCome 52 = .ok (.if_icmp .ge 7, 3) := by decide +kernel
theorem dX12_canCome_27 : decode cX12_canCome 27 = .ok (.iconst 1, 1) := by decide +kernel
theorem dX12_canCome_28 : decode cX12_canCome 28 = .ok (.ireturn, 1) := by decide +kernel
theorem dX12_safe_0 : decode cX12_safe 0 = .ok (.aload_n 0, 1) := by decide +kernel
theorem dX12_safe_1 : decode cX12_safe 1 = .ok (.iconst 0, 1) := by decide +kernel
theorem dX12_safe_2 : decode cX12_safe 2 = .ok (.putfield 85, 3) := by decide +kernel
theorem dX12_safe_5 : decode cX12_safe 5 = .ok (.aload_n 0, 1) := by decide +kernel
theorem dX12_safe_6 : decode cX12_safe 6 = .ok (.iconst (-1), 1) := by decide +kernel
theorem dX12_safe_7 : decode cX12_safe 7 = .ok (.putfield 55, 3) := by decide +kernel
theorem dX12_safe_10 : decode cX12_safe 10 = .ok (.iload_n 1, 1) := by decide +kernel
set_option maxRecDepth 20000 in
theorem ggX12_safe_X12_isCode : GoodIn wsX12_safe wsX12_isCode := goodIn_r _ [7] rfl (by decide +kernel)
set_option maxRecDepth 20000 in
theorem gX12_safe_X12_isCode : GoodIn wsX12_safe (va_wsS RX12 158 yX12_isCode wsX12_isCode) := goodIn_app (goodIn_r _ [4, 5, 6] rfl (by decide +kernel)) ggX12_safe_X12_isCode
theorem dX12_safe_11 : decode cX12_safe 11 = .ok (.invokestatic 158, 3) := by decide +kernel
theorem dX12_safe_14 : decode cX12_safe 14 = .ok (.ifCond .eq 10, 3) := by decide +kernel
theorem dX12_safe_24 : decode cX12_safe 24 = .ok (.iconst (-1), 1) := by decide +kernel
theorem dX12_safe_25 : decode cX12_safe 25 = .ok (.ireturn, 1) := by decide +kernel
theorem dX12_safe_17 : decode cX12_safe 17 = .ok (.iload_n 2, 1) := by decide +kernel
theorem dX12_safe_18 : decode cX12_safe 18 = .ok (.invokestatic 158, 3) := by decide +kernel
theorem dX12_safe_21 : decode cX12_safe 21 = .ok (.ifCond .ne 5, 3) := by decide +kernel
theorem dX12_safe_26 : decode cX12_safe 26 = .ok (.iload_n 1, 1) := by decide +kernel
theorem dX12_safe_27 : decode cX12_safe 27 = .ok (.iload_n 2, 1) := by decide +kernel
theorem dX12_safe_28 : decode cX12_safe 28 = .ok (.if_icmp .ne 5, 3) := by decide +kernel
theorem dX12_safe_33 : decode cX12_safe 33 = .ok (.iconst 0, 1) := by decide +kernel
theorem dX12_safe_34 : decode cX12_safe 34 = .ok (.istore_n 3, 1) := by decide +kernel
theorem dX12_safe_35 : decode cX12_safe 35 = .ok (.iload_n 3, 1) := by decide +kernel
theorem dX12_safe_36 : decode cX12_safe 36 = .ok (.sipush 256, 3) := by decide +kernel
theorem dX12_safe_39 : decode cX12_safe 39 = .ok (.if_icmp .ge 97, 3) := by decide +kernel
theorem dX12_safe_136 : decode cX12_safe 136 = .ok (.iconst 1, 1) := by decide +kernel
theorem dX12_safe_137 : decode cX12_safe 137 = .ok (.ireturn, 1) := by decide +kernel
theorem dX12_safe_42 : decode cX12_safe 42 = .ok (.aload_n 0, 1) := by decide +kernel
theorem dX12_safe_43 : decode cX12_safe 43 = .ok (.iload_n 1, 1) := by decide +kernel
theorem dX12_safe_44 : decode cX12_safe 44 = .ok (.iload_n 3, 1) := by decide +kernel
set_option maxRecDepth 20000 in
theorem ggX12_safe_X12_canCome : GoodIn wsX12_safe wsX12_canCome := goodIn_r _ [11, 3, 12, 13, 14, 15, 16, 17, 18, 19, 20, 21, 22, 23, 24, 25, 26, 27, 28, 29, 30, 31, 32, 33, 34, 35, 36, 37, 38, 39, 40, 41, 42, 43, 44, 45, 46, 47, 48, 49, 50, 51] rfl (by decide +kernel)
set_option maxRecDepth 20000 in
theorem gX12_safe_X12_canCome : GoodIn wsX12_safe (wsV RX12 177 RX12 yX12_canCome wsX12_canCome) := goodIn_app (goodIn_r _ [8, 9, 10, 6] rfl (by decide +kernel)) ggX12_safe_X12_canCome
theorem dX12_safe_45 : decode cX12_safe 45 = .ok (.invokevirtual 177, 3) := by decide +kernel
theorem dX12_safe_48 : decode cX12_safe 48 = .ok (.ifCond .ne 6, 3) := by decide +kernel
theorem dX12_safe_54 : decode cX12_safe 54 = .ok (.iload_n 2, 1) := by decide +kernel
theorem dX12_safe_55 : decode cX12_safe 55 = .ok (.iconst 1, 1) := by decide +kernel
theorem dX12_safe_56 : decode cX12_safe 56 = .ok (.if_icmp .eq 60, 3) := by decide +kernel
theorem dX12_safe_116 : decode cX12_safe 116 = .ok (.iconst 1, 1) := by decide +kernel
theorem dX12_safe_117 : decode cX12_safe 117 = .ok (.goto 4, 3) := by decide +kernel
theorem dX12_safe_121 : decode cX12_safe 121 = .ok (.istore 4, 2) := by decide +kernel
theorem dX12_safe_123 : decode cX12_safe 123 = .ok (.iload 4, 2) := by decide +kernel
theorem dX12_safe_125 : decode cX12_safe 125 = .ok (.ifCond .ne 5, 3) := by decide +kernel
theorem dX12_safe_130 : decode cX12_safe 130 = .ok (.iinc 3 1, 3) := by decide +kernel
theorem dX12_safe_133 : decode cX12_safe 133 = .ok (.goto (-98), 3) := by decide +kernel
theorem dX12_safe_59 : decode cX12_safe 59 = .ok (.iload_n 2, 1) := by decide +kernel
theorem dX12_safe_60 : decode cX12_safe 60 = .ok (.ifCond .eq 8, 3) := by decide +kernel
theorem dX12_safe_68 : decode cX12_safe 68 = .ok (.iload_n 3, 1) := by decide +kernel
theorem dX12_safe_69 : decode cX12_safe 69 = .ok (.sipush 128, 3) := by decide +kernel
theorem dX12_safe_72 : decode cX12_safe 72 = .ok (.if_icmp .lt 44, 3) := by decide +kernel
theorem dX12_safe_75 : decode cX12_safe 75 = .ok (.iload_n 2, 1) := by decide +kernel
theorem dX12_safe_76 : decode cX12_safe 76 = .ok (.iconst 3, 1) := by decide +kernel
theorem dX12_safe_77 : decode cX12_safe 77 = .ok (.if_icmp .ne 16, 3) := by decide +kernel
theorem dX12_safe_93 : decode cX12_safe 93 = .ok (.iload_n 2, 1) := by decide +kernel
theorem dX12_safe_94 : decode cX12_safe 94 = .ok (.iconst 3, 1) := by decide +kernel
theorem dX12_safe_95 : decode cX12_safe 95 = .ok (.if_icmp .le 25, 3) := by decide +kernel
theorem dX12_safe_120 : decode cX12_safe 120 = .ok (.iconst 0, 1) := by decide +kernel
theorem dX12_safe_128 : decode cX12_safe 128 = .ok (.iconst 0, 1) := by decide +kernel
theorem dX12_safe_129 : decode cX12_safe 129 = .ok (.ireturn, 1) := by decide +kernel
theorem dX12_safe_63 : decode cX12_safe 63 = .ok (.iload_n 2, 1) := by decide +kernel
theorem dX12_safe_64 : decode cX12_safe 64 = .ok (.iconst 2, 1) := by decide +kernel
theorem dX12_safe_65 : decode cX12_safe 65 = .ok (.if_icmp .ne 10, 3) := by decide +kernel
theorem dX12_safe_98 : decode cX12_safe 98 = .ok (.aload_n 0, 1) := by decide +kernel
theorem dX12_safe_99 : decode cX12_safe 99 = .ok (.getfield 19, 3) := by decide +kernel
theorem dX12_safe_102 : decode cX12_safe 102 = .ok (.sipush 256, 3) := by decide +kernel
theorem dX12_safe_105 : decode cX12_safe 105 = .ok (.iload_n 2, 1) := by decide +kernel
theorem dX12_safe_106 : decode cX12_safe 106 = .ok (.iconst 4, 1) := by decide +kernel
theorem dX12_safe_107 : decode cX12_safe 107 = .ok (.isub, 1) := by decide +kernel
theorem dX12_safe_108 : decode cX12_safe 108 = .ok (.imul, 1) := by decide +kernel
theorem dX12_safe_109 : decode cX12_safe 109 = .ok (.iload_n 3, 1) := by decide +kernel
theorem dX12_safe_110 : decode cX12_safe 110 = .ok (.iadd, 1) := by decide +kernel
theorem dX12_safe_111 : decode cX12_safe 111 = .ok (.iaload, 1) := by decide +kernel
theorem dX12_safe_112 : decode cX12_safe 112 = .ok (.iconst (-1), 1) := by decide +kernel
theorem dX12_safe_113 : decode cX12_safe 113 = .ok (.if_icmp .eq 7, 3) := by decide +kernel
theorem dX12_safe_80 : decode cX12_safe 80 = .ok (.iload_n 3, 1) := by decide +kernel
theorem dX12_safe_81 : decode cX12_safe 81 = .ok (.sipush 128, 3) := by decide +kernel
theorem dX12_safe_84 : decode cX12_safe 84 = .ok (.if_icmp .ge 9, 3) := by decide +kernel
theorem dX12_safe_87 : decode cX12_safe 87 = .ok (.iload_n 3, 1) := by decide +kernel
theorem dX12_safe_88 : decode cX12_safe 88 = .ok (.bipush 38, 2) := by decide +kernel
theorem dX12_safe_90 : decode cX12_safe 90 = .ok (.if_icmp .ne 26, 3) := by decide +kernel
theorem dX12_safe_51 : decode cX12_safe 51 = .ok (.goto 79, 3) := by decide +kernel
theorem dX12_safe_31 : decode cX12_safe 31 = .ok (.iconst 1, 1) := by decide +kernel
theorem dX12_safe_32 : decode cX12_safe 32 = .ok (.ireturn, 1) := by decide +kernel
theorem dX12_makes_0 : decode cX12_makes 0 = .ok (.aload_n 0, 1) := by decide +kernel
set_option maxRecDepth 20000 in
theorem ggX12_makes_X12_takeText : GoodIn wsX12_makes wsX12_takeText := goodIn_r _ [8, 9, 10, 11, 12, 64, 65, 66, 67, 68, 69, 70, 71, 72, 73, 74, 75, 76, 77, 78, 79, 80, 81, 82, 83, 84, 85, 86, 87, 88, 89, 90, 91, 92, 93, 94, 95, 96, 97, 98, 99, 100, 101, 102, 103] rfl (by decide +kernel)
set_option maxRecDepth 20000 in
theorem gX12_makes_X12_takeText : GoodIn wsX12_makes (wsV RX12 171 RX12 yX12_takeText wsX12_takeText) := goodIn_app (goodIn_r _ [4, 5, 6, 7] rfl (by decide +kernel)) ggX12_makes_X12_takeText
theorem dX12_makes_1 : decode cX12_makes 1 = .ok (.invokevirtual 171, 3) := by decide +kernel
theorem dX12_makes_4 : decode cX12_makes 4 = .ok (.iload_n 1, 1) := by decide +kernel
theorem dX12_makes_5 : decode cX12_makes 5 = .ok (.istore_n 3, 1) := by decide +kernel
theorem dX12_makes_6 : decode cX12_makes 6 = .ok (.iconst 0, 1) := by decide +kernel
theorem dX12_makes_7 : decode cX12_makes 7 = .ok (.istore 4, 2) := by decide +kernel
theorem dX12_makes_9 : decode cX12_makes 9 = .ok (.iload 4, 2) := by decide +kernel
theorem dX12_makes_11 : decode cX12_makes 11 = .ok (.iload_n 2, 1) := by decide +kernel
theorem dX12_makes_12 : decode cX12_makes 12 = .ok (.if_icmp .ge 47, 3) := by decide +kernel
theorem dX12_makes_59 : decode cX12_makes 59 = .ok (.iconst 1, 1) := by decide +kernel
theorem dX12_makes_60 : decode cX12_makes 60 = .ok (.ireturn, 1) := by decide +kernel
theorem dX12_makes_15 : decode cX12_makes 15 = .ok (.iload_n 3, 1) := by decide +kernel
theorem dX12_makes_16 : decode cX12_makes 16 = .ok (.aload_n 0, 1) := by decide +kernel
theorem dX12_makes_17 : decode cX12_makes 17 = .ok (.getfield 161, 3) := by decide +kernel
theorem dX12_makes_20 : decode cX12_makes 20 = .ok (.irem, 1) := by decide +kernel
theorem dX12_makes_21 : decode cX12_makes 21 = .ok (.istore 5, 2) := by decide +kernel
theorem dX12_makes_23 : decode cX12_makes 23 = .ok (.iload_n 3, 1) := by decide +kernel
theorem dX12_makes_24 : decode cX12_makes 24 = .ok (.aload_n 0, 1) := by decide +kernel
theorem dX12_makes_25 : decode cX12_makes 25 = .ok (.getfield 161, 3) := by decide +kernel
theorem dX12_makes_28 : decode cX12_makes 28 = .ok (.idiv, 1) := by decide +kernel
theorem dX12_makes_29 : decode cX12_makes 29 = .ok (.istore_n 3, 1) := by decide +kernel
theorem dX12_makes_30 : decode cX12_makes 30 = .ok (.aload_n 0, 1) := by decide +kernel
theorem dX12_makes_31 : decode cX12_makes 31 = .ok (.aload_n 0, 1) := by decide +kernel
theorem dX12_makes_32 : decode cX12_makes 32 = .ok (.getfield 30, 3) := by decide +kernel
theorem dX12_makes_35 : decode cX12_makes 35 = .ok (.iload 5, 2) := by decide +kernel
theorem dX12_makes_37 : decode cX12_makes 37 = .ok (.iaload, 1) := by decide +kernel
theorem dX12_makes_38 : decode cX12_makes 38 = .ok (.aload_n 0, 1) := by decide +kernel
theorem dX12_makes_39 : decode cX12_makes 39 = .ok (.getfield 33, 3) := by decide +kernel
theorem dX12_makes_42 : decode cX12_makes 42 = .ok (.iload 5, 2) := by decide +kernel
theorem dX12_makes_44 : decode cX12_makes 44 = .ok (.iaload, 1) := by decide +kernel
set_option maxRecDepth 20000 in
theorem ggX12_makes_X12_undoes : GoodIn wsX12_makes wsX12_undoes := goodIn_r _ [16, 11, 10, 17, 18, 19, 20, 21, 22, 23, 7, 24, 25, 26, 27, 28, 29, 30, 31, 32, 33, 34, 35, 36, 37, 38, 39, 40, 41, 42, 43, 44, 45, 46, 47, 48, 49, 50, 51, 52, 53, 54, 55, 56, 57, 58, 59, 60, 61, 62, 63, 64, 65, 66, 67, 68, 69, 70, 71, 72, 73, 74, 75, 76, 77, 78, 79, 80, 81, 82, 83, 84, 85, 86, 87, 88, 89, 90, 91, 92, 93, 94, 95, 96, 97, 98, 99, 100, 101, 102, 103] rfl (by decide +kernel)
set_option maxRecDepth 20000 in
theorem gX12_makes_X12_undoes : GoodIn wsX12_makes (wsV RX12 174 RX12 yX12_undoes wsX12_undoes) := goodIn_app (goodIn_r _ [13, 14, 15, 7] rfl (by decide +kernel)) ggX12_makes_X12_undoes
theorem dX12_makes_45 : decode cX12_makes 45 = .ok (.invokevirtual 174, 3) := by decide +kernel
theorem dX12_makes_48 : decode cX12_makes 48 = .ok (.ifCond .ne 5, 3) := by decide +kernel
theorem dX12_makes_53 : decode cX12_makes 53 = .ok (.iinc 4 1, 3) := by decide +kernel
theorem dX12_makes_56 : decode cX12_makes 56 = .ok (.goto (-47), 3) := by decide +kernel
theorem dX12_makes_51 : decode cX12_makes 51 = .ok (.iconst 0, 1) := by decide +kernel
theorem dX12_makes_52 : decode cX12_makes 52 = .ok (.ireturn, 1) := by decide +kernel
theorem dX12_power_0 : decode cX12_power 0 = .ok (.iconst 1, 1) := by decide +kernel
theorem dX12_power_1 : decode cX12_power 1 = .ok (.istore_n 2, 1) := by decide +kernel
theorem dX12_power_2 : decode cX12_power 2 = .ok (.iconst 0, 1) := by decide +kernel
theorem dX12_power_3 : decode cX12_power 3 = .ok (.istore_n 3, 1) := by decide +kernel
theorem dX12_power_4 : decode cX12_power 4 = .ok (.iload_n 3, 1) := by decide +kernel
theorem dX12_power_5 : decode cX12_power 5 = .ok (.iload_n 1, 1) := by decide +kernel
theorem dX12_power_6 : decode cX12_power 6 = .ok (.if_icmp .ge 13, 3) := by decide +kernel
theorem dX12_power_19 : decode cX12_power 19 = .ok (.iload_n 2, 1) := by decide +kernel
theorem dX12_power_20 : decode cX12_power 20 = .ok (.ireturn, 1) := by decide +kernel
theorem dX12_power_9 : decode cX12_power 9 = .ok (.iload_n 2, 1) := by decide +kernel
theorem dX12_power_10 : decode cX12_power 10 = .ok (.iload_n 0, 1) := by decide +kernel
theorem dX12_power_11 : decode cX12_power 11 = .ok (.imul, 1) := by decide +kernel
theorem dX12_power_12 : decode cX12_power 12 = .ok (.istore_n 2, 1) := by decide +kernel
theorem dX12_power_13 : decode cX12_power 13 = .ok (.iinc 3 1, 3) := by decide +kernel
theorem dX12_power_16 : decode cX12_power 16 = .ok (.goto (-12), 3) := by decide +kernel
theorem dX12_sortOf_0 : decode cX12_sortOf 0 = .ok (.iload_n 0, 1) := by decide +kernel
theorem dX12_sortOf_1 : decode cX12_sortOf 1 = .ok (.bipush 97, 2) := by decide +kernel
theorem dX12_sortOf_3 : decode cX12_sortOf 3 = .ok (.if_icmp .lt 11, 3) := by decide +kernel
theorem dX12_sortOf_14 : decode cX12_sortOf 14 = .ok (.iload_n 0, 1) := by decide +kernel
theorem dX12_sortOf_15 : decode cX12_sortOf 15 = .ok (.bipush 65, 2) := by decide +kernel
theorem dX12_sortOf_17 : decode cX12_sortOf 17 = .ok (.if_icmp .lt 11, 3) := by decide +kernel
theorem dX12_sortOf_28 : decode cX12_sortOf 28 = .ok (.iload_n 0, 1) := by decide +kernel
theorem dX12_sortOf_29 : decode cX12_sortOf 29 = .ok (.bipush 48, 2) := by decide +kernel
theorem dX12_sortOf_31 : decode cX12_sortOf 31 = .ok (.if_icmp .lt 11, 3) := by decide +kernel
theorem dX12_sortOf_42 : decode cX12_sortOf 42 = .ok (.iload_n 0, 1) := by decide +kernel
theorem dX12_sortOf_43 : decode cX12_sortOf 43 = .ok (.bipush 32, 2) := by decide +kernel
theorem dX12_sortOf_45 : decode cX12_sortOf 45 = .ok (.if_icmp .ne 5, 3) := by decide +kernel
theorem dX12_sortOf_50 : decode cX12_sortOf 50 = .ok (.iload_n 0, 1) := by decide +kernel
theorem dX12_sortOf_51 : decode cX12_sortOf 51 = .ok (.bipush 33, 2) := by decide +kernel
theorem dX12_sortOf_53 : decode cX12_sortOf 53 = .ok (.if_icmp .lt 11, 3) := by decide +kernel
theorem dX12_sortOf_64 : decode cX12_sortOf 64 = .ok (.iload_n 0, 1) := by decide +kernel
theorem dX12_sortOf_65 : decode cX12_sortOf 65 = .ok (.sipush 192, 3) := by decide +kernel
theorem dX12_sortOf_68 : decode cX12_sortOf 68 = .ok (.if_icmp .lt 27, 3) := by decide +kernel
theorem dX12_sortOf_95 : decode cX12_sortOf 95 = .ok (.iload_n 0, 1) := by decide +kernel
theorem dX12_sortOf_96 : decode cX12_sortOf 96 = .ok (.sipush 880, 3) := by decide +kernel
theorem dX12_sortOf_99 : decode cX12_sortOf 99 = .ok (.if_icmp .lt 15, 3) := by decide +kernel
theorem dX12_sortOf_114 : decode cX12_sortOf 114 = .ok (.iconst 0, 1) := by decide +kernel
theorem dX12_sortOf_115 : decode cX12_sortOf 115 = .ok (.ireturn, 1) := by decide +kernel
theorem dX12_sortOf_56 : decode cX12_sortOf 56 = .ok (.iload_n 0, 1) := by decide +kernel
theorem dX12_sortOf_57 : decode cX12_sortOf 57 = .ok (.bipush 126, 2) := by decide +kernel
theorem dX12_sortOf_59 : decode cX12_sortOf 59 = .ok (.if_icmp .gt 5, 3) := by decide +kernel
theorem dX12_sortOf_62 : decode cX12_sortOf 62 = .ok (.iconst 5, 1) := by decide +kernel
theorem dX12_sortOf_63 : decode cX12_sortOf 63 = .ok (.ireturn, 1) := by decide +kernel
theorem dX12_sortOf_48 : decode cX12_sortOf 48 = .ok (.iconst 4, 1) := by decide +kernel
theorem dX12_sortOf_49 : decode cX12_sortOf 49 = .ok (.ireturn, 1) := by decide +kernel
theorem dX12_sortOf_34 : decode cX12_sortOf 34 = .ok (.iload_n 0, 1) := by decide +kernel
theorem dX12_sortOf_35 : decode cX12_sortOf 35 = .ok (.bipush 57, 2) := by decide +kernel
theorem dX12_sortOf_37 : decode cX12_sortOf 37 = .ok (.if_icmp .gt 5, 3) := by decide +kernel
theorem dX12_sortOf_40 : decode cX12_sortOf 40 = .ok (.iconst 3, 1) := by decide +kernel
theorem dX12_sortOf_41 : decode cX12_sortOf 41 = .ok (.ireturn, 1) := by decide +kernel
theorem dX12_sortOf_20 : decode cX12_sortOf 20 = .ok (.iload_n 0, 1) := by decide +kernel
theorem dX12_sortOf_21 : decode cX12_sortOf 21 = .ok (.bipush 90, 2) := by decide +kernel
theorem dX12_sortOf_23 : decode cX12_sortOf 23 = .ok (.if_icmp .gt 5, 3) := by decide +kernel
theorem dX12_sortOf_26 : decode cX12_sortOf 26 = .ok (.iconst 2, 1) := by decide +kernel
theorem dX12_sortOf_27 : decode cX12_sortOf 27 = .ok (.ireturn, 1) := by decide +kernel
theorem dX12_sortOf_6 : decode cX12_sortOf 6 = .ok (.iload_n 0, 1) := by decide +kernel
theorem dX12_sortOf_7 : decode cX12_sortOf 7 = .ok (.bipush 122, 2) := by decide +kernel
theorem dX12_sortOf_9 : decode cX12_sortOf 9 = .ok (.if_icmp .gt 5, 3) := by decide +kernel
theorem dX12_sortOf_71 : decode cX12_sortOf 71 = .ok (.iload_n 0, 1) := by decide +kernel
theorem dX12_sortOf_72 : decode cX12_sortOf 72 = .ok (.sipush 591, 3) := by decide +kernel
theorem dX12_sortOf_75 : decode cX12_sortOf 75 = .ok (.if_icmp .gt 20, 3) := by decide +kernel
theorem dX12_sortOf_102 : decode cX12_sortOf 102 = .ok (.iload_n 0, 1) := by decide +kernel
theorem dX12_sortOf_103 : decode cX12_sortOf 103 = .ok (.sipush 1327, 3) := by decide +kernel
theorem dX12_sortOf_106 : decode cX12_sortOf 106 = .ok (.if_icmp .gt 8, 3) := by decide +kernel
theorem dX12_sortOf_109 : decode cX12_sortOf 109 = .ok (.bipush 7, 2) := by decide +kernel
theorem dX12_sortOf_111 : decode cX12_sortOf 111 = .ok (.goto 4, 3) := by decide +kernel
theorem dX12_sortOf_78 : decode cX12_sortOf 78 = .ok (.iload_n 0, 1) := by decide +kernel
theorem dX12_sortOf_79 : decode cX12_sortOf 79 = .ok (.sipush 215, 3) := by decide +kernel
theorem dX12_sortOf_82 : decode cX12_sortOf 82 = .ok (.if_icmp .eq 13, 3) := by decide +kernel
theorem dX12_sortOf_85 : decode cX12_sortOf 85 = .ok (.iload_n 0, 1) := by decide +kernel
theorem dX12_sortOf_86 : decode cX12_sortOf 86 = .ok (.sipush 247, 3) := by decide +kernel
theorem dX12_sortOf_89 : decode cX12_sortOf 89 = .ok (.if_icmp .eq 6, 3) := by decide +kernel
theorem dX12_sortOf_92 : decode cX12_sortOf 92 = .ok (.bipush 6, 2) := by decide +kernel
theorem dX12_sortOf_94 : decode cX12_sortOf 94 = .ok (.ireturn, 1) := by decide +kernel
theorem dX12_sortOf_12 : decode cX12_sortOf 12 = .ok (.iconst 1, 1) := by decide +kernel
theorem dX12_sortOf_13 : decode cX12_sortOf 13 = .ok (.ireturn, 1) := by decide +kernel
theorem dX12_costOf_0 : decode cX12_costOf 0 = .ok (.iconst 0, 1) := by decide +kernel
theorem dX12_costOf_1 : decode cX12_costOf 1 = .ok (.istore_n 3, 1) := by decide +kernel
theorem dX12_costOf_2 : decode cX12_costOf 2 = .ok (.iload_n 3, 1) := by decide +kernel
theorem dX12_costOf_3 : decode cX12_costOf 3 = .ok (.aload_n 0, 1) := by decide +kernel
theorem dX12_costOf_4 : decode cX12_costOf 4 = .ok (.getfield 168, 3) := by decide +kernel
theorem dX12_costOf_7 : decode cX12_costOf 7 = .ok (.if_icmp .ge 36, 3) := by decide +kernel
theorem dX12_costOf_43 : decode cX12_costOf 43 = .ok (.iload_n 1, 1) := by decide +kernel
set_option maxRecDepth 20000 in
theorem ggX12_costOf_X12_sortOf : GoodIn wsX12_costOf wsX12_sortOf := goodIn_r _ [8] rfl (by decide +kernel)
set_option maxRecDepth 20000 in
theorem gX12_costOf_X12_sortOf : GoodIn wsX12_costOf (va_wsS RX12 193 yX12_sortOf wsX12_sortOf) := goodIn_app (goodIn_r _ [5, 6, 7] rfl (by decide +kernel)) ggX12_costOf_X12_sortOf
theorem dX12_costOf_44 : decode cX12_costOf 44 = .ok (.invokestatic 193, 3) := by decide +kernel
theorem dX12_costOf_47 : decode cX12_costOf 47 = .ok (.istore_n 3, 1) := by decide +kernel
theorem dX12_costOf_48 : decode cX12_costOf 48 = .ok (.iload_n 2, 1) := by decide +kernel
theorem dX12_costOf_49 : decode cX12_costOf 49 = .ok (.invokestatic 193, 3) := by decide +kernel
theorem dX12_costOf_52 : decode cX12_costOf 52 = .ok (.istore 4, 2) := by decide +kernel
theorem dX12_costOf_54 : decode cX12_costOf 54 = .ok (.iload_n 3, 1) := by decide +kernel
theorem dX12_costOf_55 : decode cX12_costOf 55 = .ok (.iload 4, 2) := by decide +kernel
theorem dX12_costOf_57 : decode cX12_costOf 57 = .ok (.if_icmp .ne 7, 3) := by decide +kernel
theorem dX12_costOf_64 : decode cX12_costOf 64 = .ok (.bipush 9, 2) := by decide +kernel
theorem dX12_costOf_66 : decode cX12_costOf 66 = .ok (.iload_n 3, 1) := by decide +kernel
theorem dX12_costOf_67 : decode cX12_costOf 67 = .ok (.ifCond .ne 8, 3) := by decide +kernel
theorem dX12_costOf_75 : decode cX12_costOf 75 = .ok (.iconst 0, 1) := by decide +kernel
theorem dX12_costOf_76 : decode cX12_costOf 76 = .ok (.iadd, 1) := by decide +kernel
theorem dX12_costOf_77 : decode cX12_costOf 77 = .ok (.iload 4, 2) := by decide +kernel
theorem dX12_costOf_79 : decode cX12_costOf 79 = .ok (.ifCond .ne 8, 3) := by decide +kernel
theorem dX12_costOf_87 : decode cX12_costOf 87 = .ok (.iconst 0, 1) := by decide +kernel
theorem dX12_costOf_88 : decode cX12_costOf 88 = .ok (.iadd, 1) := by decide +kernel
theorem dX12_costOf_89 : decode cX12_costOf 89 = .ok (.ireturn, 1) := by decide +kernel
theorem dX12_costOf_82 : decode cX12_costOf 82 = .ok (.bipush 30, 2) := by decide +kernel
theorem dX12_costOf_84 : decode cX12_costOf 84 = .ok (.goto 4, 3) := by decide +kernel
theorem dX12_costOf_70 : decode cX12_costOf 70 = .ok (.bipush 30, 2) := by decide +kernel
theorem dX12_costOf_72 : decode cX12_costOf 72 = .ok (.goto 4, 3) := by decide +kernel
theorem dX12_costOf_60 : decode cX12_costOf 60 = .ok (.iconst 4, 1) := by decide +kernel
theorem dX12_costOf_61 : decode cX12_costOf 61 = .ok (.goto 5, 3) := by decide +kernel
theorem dX12_costOf_10 : decode cX12_costOf 10 = .ok (.aload_n 0, 1) := by decide +kernel
theorem dX12_costOf_11 : decode cX12_costOf 11 = .ok (.getfield 39, 3) := by decide +kernel
theorem dX12_costOf_14 : decode cX12_costOf 14 = .ok (.iload_n 3, 1) := by decide +kernel
theorem dX12_costOf_15 : decode cX12_costOf 15 = .ok (.iaload, 1) := by decide +kernel
theorem dX12_costOf_16 : decode cX12_costOf 16 = .ok (.iload_n 1, 1) := by decide +kernel
theorem dX12_costOf_17 : decode cX12_costOf 17 = .ok (.if_icmp .ne 20, 3) := by decide +kernel
theorem dX12_costOf_37 : decode cX12_costOf 37 = .ok (.iinc 3 1, 3) := by decide +kernel
theorem dX12_costOf_40 : decode cX12_costOf 40 = .ok (.goto (-38), 3) := by decide +kernel
theorem dX12_costOf_20 : decode cX12_costOf 20 = .ok (.aload_n 0, 1) := by decide +kernel
theorem dX12_costOf_21 : decode cX12_costOf 21 = .ok (.getfield 42, 3) := by decide +kernel
theorem dX12_costOf_24 : decode cX12_costOf 24 = .ok (.iload_n 3, 1) := by decide +kernel
theorem dX12_costOf_25 : decode cX12_costOf 25 = .ok (.iaload, 1) := by decide +kernel
theorem dX12_costOf_26 : decode cX12_costOf 26 = .ok (.iload_n 2, 1) := by decide +kernel
theorem dX12_costOf_27 : decode cX12_costOf 27 = .ok (.if_icmp .ne 10, 3) := by decide +kernel
theorem dX12_costOf_30 : decode cX12_costOf 30 = .ok (.aload_n 0, 1) := by decide +kernel
theorem dX12_costOf_31 : decode cX12_costOf 31 = .ok (.getfield 45, 3) := by decide +kernel
theorem dX12_costOf_34 : decode cX12_costOf 34 = .ok (.iload_n 3, 1) := by decide +kernel
theorem dX12_costOf_35 : decode cX12_costOf 35 = .ok (.iaload, 1) := by decide +kernel
theorem dX12_costOf_36 : decode cX12_costOf 36 = .ok (.ireturn, 1) := by decide +kernel
theorem dX12_costOf__0 : decode cX12_costOf_ 0 = .ok (.iconst 0, 1) := by decide +kernel
theorem dX12_costOf__1 : decode cX12_costOf_ 1 = .ok (.istore 4, 2) := by decide +kernel
theorem dX12_costOf__3 : decode cX12_costOf_ 3 = .ok (.bipush 32, 2) := by decide +kernel
theorem dX12_costOf__5 : decode cX12_costOf_ 5 = .ok (.istore 5, 2) := by decide +kernel
theorem dX12_costOf__7 : decode cX12_costOf_ 7 = .ok (.iload_n 2, 1) := by decide +kernel
theorem dX12_costOf__8 : decode cX12_costOf_ 8 = .ok (.istore 6, 2) := by decide +kernel
theorem dX12_costOf__10 : decode cX12_costOf_ 10 = .ok (.iload 6, 2) := by decide +kernel
theorem dX12_costOf__12 : decode cX12_costOf_ 12 = .ok (.iload_n 3, 1) := by decide +kernel
theorem dX12_costOf__13 : decode cX12_costOf_ 13 = .ok (.if_icmp .ge 30, 3) := by decide +kernel
theorem dX12_costOf__43 : decode cX12_costOf_ 43 = .ok (.iload 4, 2) := by decide +kernel
theorem dX12_costOf__45 : decode cX12_costOf_ 45 = .ok (.aload_n 0, 1) := by decide +kernel
theorem dX12_costOf__46 : decode cX12_costOf_ 46 = .ok (.iload 5, 2) := by decide +kernel
theorem dX12_costOf__48 : decode cX12_costOf_ 48 = .ok (.bipush 32, 2) := by decide +kernel
set_option maxRecDepth 20000 in
theorem ggX12_costOf__X12_costOf : GoodIn wsX12_costOf_ wsX12_costOf := goodIn_r _ [5, 6, 7, 8, 9, 10, 11, 4, 12, 13, 14, 15, 16, 17, 18, 19, 20, 21, 22, 23, 24, 25, 26, 27, 28, 29, 30, 31, 32, 33, 34, 35, 36, 37, 38, 39, 40, 41, 42, 43, 44, 45, 46, 47, 48, 49, 50, 51, 52] rfl (by decide +kernel)
set_option maxRecDepth 20000 in
theorem gX12_costOf__X12_costOf : GoodIn wsX12_costOf_ (wsV RX12 196 RX12 yX12_costOf wsX12_costOf) := goodIn_app (goodIn_r _ [1, 2, 3, 4] rfl (by decide +kernel)) ggX12_costOf__X12_costOf
theorem dX12_costOf__50 : decode cX12_costOf_ 50 = .ok (.invokevirtual 196, 3) := by decide +kernel
theorem dX12_costOf__53 : decode cX12_costOf_ 53 = .ok (.iadd, 1) := by decide +kernel
theorem dX12_costOf__54 : decode cX12_costOf_ 54 = .ok (.ireturn, 1) := by decide +kernel
theorem dX12_costOf__16 : decode cX12_costOf_ 16 = .ok (.iload 4, 2) := by decide +kernel
theorem dX12_costOf__18 : decode cX12_costOf_ 18 = .ok (.aload_n 0, 1) := by decide +kernel
theorem dX12_costOf__19 : decode cX12_costOf_ 19 = .ok (.iload 5, 2) := by decide +kernel
theorem dX12_costOf__21 : decode cX12_costOf_ 21 = .ok (.aload_n 1, 1) := by decide +kernel
theorem dX12_costOf__22 : decode cX12_costOf_ 22 = .ok (.iload 6, 2) := by decide +kernel
theorem dX12_costOf__24 : decode cX12_costOf_ 24 = .ok (.iaload, 1) := by decide +kernel
theorem dX12_costOf__25 : decode cX12_costOf_ 25 = .ok (.invokevirtual 196, 3) := by decide +kernel
theorem dX12_costOf__28 : decode cX12_costOf_ 28 = .ok (.iadd, 1) := by decide +kernel
theorem dX12_costOf__29 : decode cX12_costOf_ 29 = .ok (.istore 4, 2) := by decide +kernel
theorem dX12_costOf__31 : decode cX12_costOf_ 31 = .ok (.aload_n 1, 1) := by decide +kernel
theorem dX12_costOf__32 : decode cX12_costOf_ 32 = .ok (.iload 6, 2) := by decide +kernel
theorem dX12_costOf__34 : decode cX12_costOf_ 34 = .ok (.iaload, 1) := by decide +kernel
theorem dX12_costOf__35 : decode cX12_costOf_ 35 = .ok (.istore 5, 2) := by decide +kernel
theorem dX12_costOf__37 : decode cX12_costOf_ 37 = .ok (.iinc 6 1, 3) := by decide +kernel
theorem dX12_costOf__40 : decode cX12_costOf_ 40 = .ok (.goto (-30), 3) := by decide +kernel
theorem dX12_worth_0 : decode cX12_worth 0 = .ok (.aload_n 0, 1) := by decide +kernel
theorem dX12_worth_1 : decode cX12_worth 1 = .ok (.iconst 0, 1) := by decide +kernel
theorem dX12_worth_2 : decode cX12_worth 2 = .ok (.putfield 85, 3) := by decide +kernel
theorem dX12_worth_5 : decode cX12_worth 5 = .ok (.aload_n 0, 1) := by decide +kernel
theorem dX12_worth_6 : decode cX12_worth 6 = .ok (.aload_n 0, 1) := by decide +kernel
theorem dX12_worth_7 : decode cX12_worth 7 = .ok (.getfield 16, 3) := by decide +kernel
theorem dX12_worth_10 : decode cX12_worth 10 = .ok (.iconst 0, 1) := by decide +kernel
theorem dX12_worth_11 : decode cX12_worth 11 = .ok (.aload_n 0, 1) := by decide +kernel
theorem dX12_worth_12 : decode cX12_worth 12 = .ok (.getfield 13, 3) := by decide +kernel
theorem dX12_worth_15 : decode cX12_worth 15 = .ok (.iconst 0, 1) := by decide +kernel
theorem dX12_worth_16 : decode cX12_worth 16 = .ok (.iaload, 1) := by decide +kernel
set_option maxRecDepth 20000 in
theorem ggX12_worth_X12_costOf_ : GoodIn wsX12_worth wsX12_costOf_ := goodIn_r _ [8, 9, 10, 11, 7, 12, 13, 14, 15, 16, 17, 18, 19, 20, 21, 22, 23, 24, 25, 26, 27, 28, 29, 30, 31, 32, 33, 34, 35, 36, 37, 38, 39, 40, 41, 42, 43, 44, 45, 46, 47, 48, 49, 50, 51, 52, 53, 54, 55, 56, 57, 58, 59] rfl (by decide +kernel)
set_option maxRecDepth 20000 in
theorem gX12_worth_X12_costOf_ : GoodIn wsX12_worth (wsV RX12 189 RX12 yX12_costOf_ wsX12_costOf_) := goodIn_app (goodIn_r _ [4, 5, 6, 7] rfl (by decide +kernel)) ggX12_worth_X12_costOf_
theorem dX12_worth_17 : decode cX12_worth 17 = .ok (.invokevirtual 189, 3) := by decide +kernel
theorem dX12_worth_20 : decode cX12_worth 20 = .ok (.ireturn, 1) := by decide +kernel
