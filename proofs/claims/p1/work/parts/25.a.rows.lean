theorem dX12_canCome_0 : decode cX12_canCome 0 = .ok (.iload_n 1, 1) := by decide +kernel
theorem dX12_canCome_1 : decode cX12_canCome 1 = .ok (.ifCond .eq 8, 3) := by decide +kernel
theorem dX12_canCome_9 : decode cX12_canCome 9 = .ok (.iload_n 2, 1) := by decide +kernel
theorem dX12_canCome_10 : decode cX12_canCome 10 = .ok (.sipush 128, 3) := by decide +kernel
theorem dX12_canCome_13 : decode cX12_canCome 13 = .ok (.if_icmp .ge 7, 3) := by decide +kernel
theorem dX12_canCome_20 : decode cX12_canCome 20 = .ok (.iconst 0, 1) := by decide +kernel
theorem dX12_canCome_21 : decode cX12_canCome 21 = .ok (.ireturn, 1) := by decide +kernel
theorem dX12_canCome_16 : decode cX12_canCome 16 = .ok (.iconst 1, 1) := by decide +kernel
theorem dX12_canCome_17 : decode cX12_canCome 17 = .ok (.goto 4, 3) := by decide +kernel
theorem dX12_canCome_4 : decode cX12_canCome 4 = .ok (.iload_n 1, 1) := by decide +kernel
theorem dX12_canCome_5 : decode cX12_canCome 5 = .ok (.iconst 3, 1) := by decide +kernel
theorem dX12_canCome_6 : decode cX12_canCome 6 = .ok (.if_icmp .ne 16, 3) := by decide +kernel
theorem dX12_canCome_22 : decode cX12_canCome 22 = .ok (.iload_n 1, 1) := by decide +kernel
theorem dX12_canCome_23 : decode cX12_canCome 23 = .ok (.iconst 1, 1) := by decide +kernel
theorem dX12_canCome_24 : decode cX12_canCome 24 = .ok (.if_icmp .ne 5, 3) := by decide +kernel
theorem dX12_canCome_27 : decode cX12_canCome 27 = .ok (.iconst 1, 1) := by decide +kernel
theorem dX12_canCome_28 : decode cX12_canCome 28 = .ok (.ireturn, 1) := by decide +kernel
theorem dX12_canCome_29 : decode cX12_canCome 29 = .ok (.iload_n 1, 1) := by decide +kernel
theorem dX12_canCome_30 : decode cX12_canCome 30 = .ok (.iconst 2, 1) := by decide +kernel
theorem dX12_canCome_31 : decode cX12_canCome 31 = .ok (.if_icmp .ne 30, 3) := by decide +kernel
theorem dX12_canCome_34 : decode cX12_canCome 34 = .ok (.iload_n 2, 1) := by decide +kernel
theorem dX12_canCome_35 : decode cX12_canCome 35 = .ok (.sipush 192, 3) := by decide +kernel
theorem dX12_canCome_38 : decode cX12_canCome 38 = .ok (.if_icmp .lt 17, 3) := by decide +kernel
theorem dX12_canCome_55 : decode cX12_canCome 55 = .ok (.iconst 1, 1) := by decide +kernel
theorem dX12_canCome_56 : decode cX12_canCome 56 = .ok (.goto 4, 3) := by decide +kernel
theorem dX12_canCome_60 : decode cX12_canCome 60 = .ok (.ireturn, 1) := by decide +kernel
theorem dX12_canCome_41 : decode cX12_canCome 41 = .ok (.iload_n 2, 1) := by decide +kernel
theorem dX12_canCome_42 : decode cX12_canCome 42 = .ok (.sipush 193, 3) := by decide +kernel
theorem dX12_canCome_45 : decode cX12_canCome 45 = .ok (.if_icmp .le 14, 3) := by decide +kernel
theorem dX12_canCome_59 : decode cX12_canCome 59 = .ok (.iconst 0, 1) := by decide +kernel
theorem dX12_canCome_48 : decode cX12_canCome 48 = .ok (.iload_n 2, 1) := by decide +kernel
theorem dX12_canCome_49 : decode cX12_canCome 49 = .ok (.sipush 240, 3) := by decide +kernel
theorem dX12_canCome_52 : decode cX12_canCome 52 = .ok (.if_icmp .ge 7, 3) := by decide +kernel
theorem dX12_canCome_61 : decode cX12_canCome 61 = .ok (.aload_n 0, 1) := by decide +kernel
theorem dX12_canCome_62 : decode cX12_canCome 62 = .ok (.getfield 19, 3) := by decide +kernel
theorem dX12_canCome_65 : decode cX12_canCome 65 = .ok (.sipush 256, 3) := by decide +kernel
theorem dX12_canCome_68 : decode cX12_canCome 68 = .ok (.iload_n 1, 1) := by decide +kernel
theorem dX12_canCome_69 : decode cX12_canCome 69 = .ok (.iconst 4, 1) := by decide +kernel
theorem dX12_canCome_70 : decode cX12_canCome 70 = .ok (.isub, 1) := by decide +kernel
theorem dX12_canCome_71 : decode cX12_canCome 71 = .ok (.imul, 1) := by decide +kernel
theorem dX12_canCome_72 : decode cX12_canCome 72 = .ok (.iload_n 2, 1) := by decide +kernel
theorem dX12_canCome_73 : decode cX12_canCome 73 = .ok (.iadd, 1) := by decide +kernel
theorem dX12_canCome_74 : decode cX12_canCome 74 = .ok (.iaload, 1) := by decide +kernel
theorem dX12_canCome_75 : decode cX12_canCome 75 = .ok (.iconst (-1), 1) := by decide +kernel
theorem dX12_canCome_76 : decode cX12_canCome 76 = .ok (.if_icmp .eq 7, 3) := by decide +kernel
theorem dX12_canCome_83 : decode cX12_canCome 83 = .ok (.iconst 0, 1) := by decide +kernel
theorem dX12_canCome_84 : decode cX12_canCome 84 = .ok (.ireturn, 1) := by decide +kernel
theorem dX12_safe_0 : decode cX12_safe 0 = .ok (.aload_n 0, 1) := by decide +kernel
theorem dX12_safe_1 : decode cX12_safe 1 = .ok (.iconst 0, 1) := by decide +kernel
theorem dX12_safe_2 : decode cX12_safe 2 = .ok (.putfield 85, 3) := by decide +kernel
theorem dX12_safe_5 : decode cX12_safe 5 = .ok (.aload_n 0, 1) := by decide +kernel
theorem dX12_safe_6 : decode cX12_safe 6 = .ok (.iconst (-1), 1) := by decide +kernel
theorem dX12_safe_7 : decode cX12_safe 7 = .ok (.putfield 55, 3) := by decide +kernel
theorem dX12_safe_10 : decode cX12_safe 10 = .ok (.iload_n 1, 1) := by decide +kernel
set_option maxRecDepth 20000 in
theorem ggX12_safe_X12_isCode : GoodIn wsX12_safe wsX12_isCode := goodIn_r _ [7] rfl (by decide +kernel)
set_option maxRecDepth 20000 in
theorem gX12_safe_X12_isCode : GoodIn wsX12_safe (va_wsS RX12 158 yX12_isCode wsX12_isCode) := goodIn_app (goodIn_r _ [4, 5, 6] rfl (by decide +kernel)) ggX12_safe_X12_isCode
theorem dX12_safe_11 : decode cX12_safe 11 = .ok (.invokestatic 158, 3) := by decide +kernel
theorem dX12_safe_14 : decode cX12_safe 14 = .ok (.ifCond .eq 10, 3) := by decide +kernel
theorem dX12_safe_24 : decode cX12_safe 24 = .ok (.iconst (-1), 1) := by decide +kernel
theorem dX12_safe_25 : decode cX12_safe 25 = .ok (.ireturn, 1) := by decide +kernel
theorem dX12_safe_17 : decode cX12_safe 17 = .ok (.iload_n 2, 1) := by decide +kernel
theorem dX12_safe_18 : decode cX12_safe 18 = .ok (.invokestatic 158, 3) := by decide +kernel
theorem dX12_safe_21 : decode cX12_safe 21 = .ok (.ifCond .ne 5, 3) := by decide +kernel
theorem dX12_safe_26 : decode cX12_safe 26 = .ok (.iload_n 1, 1) := by decide +kernel
theorem dX12_safe_27 : decode cX12_safe 27 = .ok (.iload_n 2, 1) := by decide +kernel
theorem dX12_safe_28 : decode cX12_safe 28 = .ok (.if_icmp .ne 5, 3) := by decide +kernel
theorem dX12_safe_33 : decode cX12_safe 33 = .ok (.iconst 0, 1) := by decide +kernel
theorem dX12_safe_34 : decode cX12_safe 34 = .ok (.istore_n 3, 1) := by decide +kernel
theorem dX12_safe_35 : decode cX12_safe 35 = .ok (.iload_n 3, 1) := by decide +kernel
theorem dX12_safe_36 : decode cX12_safe 36 = .ok (.sipush 256, 3) := by decide +kernel
theorem dX12_safe_39 : decode cX12_safe 39 = .ok (.if_icmp .ge 97, 3) := by decide +kernel
theorem dX12_safe_136 : decode cX12_safe 136 = .ok (.iconst 1, 1) := by decide +kernel
theorem dX12_safe_137 : decode cX12_safe 137 = .ok (.ireturn, 1) := by decide +kernel
theorem dX12_safe_42 : decode cX12_safe 42 = .ok (.aload_n 0, 1) := by decide +kernel
theorem dX12_safe_43 : decode cX12_safe 43 = .ok (.iload_n 1, 1) := by decide +kernel
theorem dX12_safe_44 : decode cX12_safe 44 = .ok (.iload_n 3, 1) := by decide +kernel
set_option maxRecDepth 20000 in
theorem ggX12_safe_X12_canCome : GoodIn wsX12_safe wsX12_canCome := goodIn_r _ [11, 3, 12, 13, 14, 15, 16, 17, 18, 19, 20, 21, 22, 23, 24, 25, 26, 27, 28, 29, 30, 31, 32, 33, 34, 35, 36, 37, 38, 39, 40, 41, 42, 43, 44, 45, 46, 47, 48, 49, 50, 51] rfl (by decide +kernel)
set_option maxRecDepth 20000 in
theorem gX12_safe_X12_canCome : GoodIn wsX12_safe (wsV RX12 177 RX12 yX12_canCome wsX12_canCome) := goodIn_app (goodIn_r _ [8, 9, 10, 6] rfl (by decide +kernel)) ggX12_safe_X12_canCome
theorem dX12_safe_45 : decode cX12_safe 45 = .ok (.invokevirtual 177, 3) := by decide +kernel
theorem dX12_safe_48 : decode cX12_safe 48 = .ok (.ifCond .ne 6, 3) := by decide +kernel
theorem dX12_safe_54 : decode cX12_safe 54 = .ok (.iload_n 2, 1) := by decide +kernel
theorem dX12_safe_55 : decode cX12_safe 55 = .ok (.iconst 1, 1) := by decide +kernel
theorem dX12_safe_56 : decode cX12_safe 56 = .ok (.if_icmp .eq 60, 3) := by decide +kernel
theorem dX12_safe_59 : decode cX12_safe 59 = .ok (.iload_n 2, 1) := by decide +kernel
theorem dX12_safe_60 : decode cX12_safe 60 = .ok (.ifCond .eq 8, 3) := by decide +kernel
theorem dX12_safe_68 : decode cX12_safe 68 = .ok (.iload_n 3, 1) := by decide +kernel
theorem dX12_safe_69 : decode cX12_safe 69 = .ok (.sipush 128, 3) := by decide +kernel
theorem dX12_safe_72 : decode cX12_safe 72 = .ok (.if_icmp .lt 44, 3) := by decide +kernel
theorem dX12_safe_116 : decode cX12_safe 116 = .ok (.iconst 1, 1) := by decide +kernel
theorem dX12_safe_117 : decode cX12_safe 117 = .ok (.goto 4, 3) := by decide +kernel
theorem dX12_safe_121 : decode cX12_safe 121 = .ok (.istore 4, 2) := by decide +kernel
theorem dX12_safe_123 : decode cX12_safe 123 = .ok (.iload 4, 2) := by decide +kernel
theorem dX12_safe_125 : decode cX12_safe 125 = .ok (.ifCond .ne 5, 3) := by decide +kernel
theorem dX12_safe_130 : decode cX12_safe 130 = .ok (.iinc 3 1, 3) := by decide +kernel
theorem dX12_safe_133 : decode cX12_safe 133 = .ok (.goto (-98), 3) := by decide +kernel
theorem dX12_safe_75 : decode cX12_safe 75 = .ok (.iload_n 2, 1) := by decide +kernel
theorem dX12_safe_76 : decode cX12_safe 76 = .ok (.iconst 3, 1) := by decide +kernel
theorem dX12_safe_77 : decode cX12_safe 77 = .ok (.if_icmp .ne 16, 3) := by decide +kernel
theorem dX12_safe_93 : decode cX12_safe 93 = .ok (.iload_n 2, 1) := by decide +kernel
theorem dX12_safe_94 : decode cX12_safe 94 = .ok (.iconst 3, 1) := by decide +kernel
theorem dX12_safe_95 : decode cX12_safe 95 = .ok (.if_icmp .le 25, 3) := by decide +kernel
theorem dX12_safe_120 : decode cX12_safe 120 = .ok (.iconst 0, 1) := by decide +kernel
theorem dX12_safe_128 : decode cX12_safe 128 = .ok (.iconst 0, 1) := by decide +kernel
theorem dX12_safe_129 : decode cX12_safe 129 = .ok (.ireturn, 1) := by decide +kernel
theorem dX12_safe_51 : decode cX12_safe 51 = .ok (.goto 79, 3) := by decide +kernel
theorem dX12_safe_31 : decode cX12_safe 31 = .ok (.iconst 1, 1) := by decide +kernel
theorem dX12_safe_32 : decode cX12_safe 32 = .ok (.ireturn, 1) := by decide +kernel
theorem dX12_safe_63 : decode cX12_safe 63 = .ok (.iload_n 2, 1) := by decide +kernel
theorem dX12_safe_64 : decode cX12_safe 64 = .ok (.iconst 2, 1) := by decide +kernel
theorem dX12_safe_65 : decode cX12_safe 65 = .ok (.if_icmp .ne 10, 3) := by decide +kernel
theorem dX12_safe_80 : decode cX12_safe 80 = .ok (.iload_n 3, 1) := by decide +kernel
theorem dX12_safe_81 : decode cX12_safe 81 = .ok (.sipush 128, 3) := by decide +kernel
theorem dX12_safe_84 : decode cX12_safe 84 = .ok (.if_icmp .ge 9, 3) := by decide +kernel
theorem dX12_safe_87 : decode cX12_safe 87 = .ok (.iload_n 3, 1) := by decide +kernel
theorem dX12_safe_88 : decode cX12_safe 88 = .ok (.bipush 38, 2) := by decide +kernel
theorem dX12_safe_90 : decode cX12_safe 90 = .ok (.if_icmp .ne 26, 3) := by decide +kernel
theorem dX12_safe_98 : decode cX12_safe 98 = .ok (.aload_n 0, 1) := by decide +kernel
theorem dX12_safe_99 : decode cX12_safe 99 = .ok (.getfield 19, 3) := by decide +kernel
theorem dX12_safe_102 : decode cX12_safe 102 = .ok (.sipush 256, 3) := by decide +kernel
theorem dX12_safe_105 : decode cX12_safe 105 = .ok (.iload_n 2, 1) := by decide +kernel
theorem dX12_safe_106 : decode cX12_safe 106 = .ok (.iconst 4, 1) := by decide +kernel
theorem dX12_safe_107 : decode cX12_safe 107 = .ok (.isub, 1) := by decide +kernel
theorem dX12_safe_108 : decode cX12_safe 108 = .ok (.imul, 1) := by decide +kernel
theorem dX12_safe_109 : decode cX12_safe 109 = .ok (.iload_n 3, 1) := by decide +kernel
theorem dX12_safe_110 : decode cX12_safe 110 = .ok (.iadd, 1) := by decide +kernel
theorem dX12_safe_111 : decode cX12_safe 111 = .ok (.iaload, 1) := by decide +kernel
theorem dX12_safe_112 : decode cX12_safe 112 = .ok (.iconst (-1), 1) := by decide +kernel
theorem dX12_safe_113 : decode cX12_safe 113 = .ok (.if_icmp .eq 7, 3) := by decide +kernel
