theorem dX3_tell_0 : decode cX3_tell 0 = .ok (.aload_n 0, 1) := by decide +kernel
theorem dX3_tell_1 : decode cX3_tell 1 = .ok (.iload_n 1, 1) := by decide +kernel
theorem dX3_tell_2 : decode cX3_tell 2 = .ok (.iload_n 2, 1) := by decide +kernel
set_option maxRecDepth 20000 in
theorem ggX3_tell_X3_placeFor : GoodIn wsX3_tell wsX3_placeFor := goodIn_r _ [8, 9, 1, 3, 10, 11, 7, 12, 13, 14, 15] rfl (by decide +kernel)
set_option maxRecDepth 20000 in
theorem gX3_tell_X3_placeFor : GoodIn wsX3_tell (wsV RX3 28 RX3 yX3_placeFor wsX3_placeFor) := goodIn_app (goodIn_r _ [4, 5, 6, 7] rfl (by decide +kernel)) ggX3_tell_X3_placeFor
theorem dX3_tell_3 : decode cX3_tell 3 = .ok (.invokevirtual 28, 3) := by decide +kernel
theorem dX3_tell_6 : decode cX3_tell 6 = .ok (.istore 4, 2) := by decide +kernel
theorem dX3_tell_8 : decode cX3_tell 8 = .ok (.iload 4, 2) := by decide +kernel
theorem dX3_tell_10 : decode cX3_tell 10 = .ok (.iconst (-1), 1) := by decide +kernel
theorem dX3_tell_11 : decode cX3_tell 11 = .ok (.if_icmp .eq 14, 3) := by decide +kernel
theorem dX3_tell_25 : decode cX3_tell 25 = .ok (.iconst 0, 1) := by decide +kernel
theorem dX3_tell_26 : decode cX3_tell 26 = .ok (.ireturn, 1) := by decide +kernel
theorem dX3_tell_14 : decode cX3_tell 14 = .ok (.iload_n 3, 1) := by decide +kernel
theorem dX3_tell_15 : decode cX3_tell 15 = .ok (.ifCond .lt 10, 3) := by decide +kernel
theorem dX3_tell_18 : decode cX3_tell 18 = .ok (.iload_n 3, 1) := by decide +kernel
theorem dX3_tell_19 : decode cX3_tell 19 = .ok (.sipush 200, 3) := by decide +kernel
theorem dX3_tell_22 : decode cX3_tell 22 = .ok (.if_icmp .le 5, 3) := by decide +kernel
theorem dX3_tell_27 : decode cX3_tell 27 = .ok (.aload_n 0, 1) := by decide +kernel
theorem dX3_tell_28 : decode cX3_tell 28 = .ok (.getfield 15, 3) := by decide +kernel
theorem dX3_tell_31 : decode cX3_tell 31 = .ok (.iload 4, 2) := by decide +kernel
theorem dX3_tell_33 : decode cX3_tell 33 = .ok (.iaload, 1) := by decide +kernel
theorem dX3_tell_34 : decode cX3_tell 34 = .ok (.iconst (-1), 1) := by decide +kernel
theorem dX3_tell_35 : decode cX3_tell 35 = .ok (.if_icmp .ne 37, 3) := by decide +kernel
theorem dX3_tell_72 : decode cX3_tell 72 = .ok (.aload_n 0, 1) := by decide +kernel
theorem dX3_tell_73 : decode cX3_tell 73 = .ok (.getfield 15, 3) := by decide +kernel
theorem dX3_tell_76 : decode cX3_tell 76 = .ok (.iload 4, 2) := by decide +kernel
theorem dX3_tell_78 : decode cX3_tell 78 = .ok (.iload_n 3, 1) := by decide +kernel
theorem dX3_tell_79 : decode cX3_tell 79 = .ok (.iastore, 1) := by decide +kernel
theorem dX3_tell_80 : decode cX3_tell 80 = .ok (.iconst 1, 1) := by decide +kernel
theorem dX3_tell_81 : decode cX3_tell 81 = .ok (.ireturn, 1) := by decide +kernel
theorem dX3_tell_38 : decode cX3_tell 38 = .ok (.aload_n 0, 1) := by decide +kernel
theorem dX3_tell_39 : decode cX3_tell 39 = .ok (.getfield 24, 3) := by decide +kernel
theorem dX3_tell_42 : decode cX3_tell 42 = .ok (.sipush 300, 3) := by decide +kernel
theorem dX3_tell_45 : decode cX3_tell 45 = .ok (.if_icmp .lt 5, 3) := by decide +kernel
theorem dX3_tell_50 : decode cX3_tell 50 = .ok (.aload_n 0, 1) := by decide +kernel
theorem dX3_tell_51 : decode cX3_tell 51 = .ok (.getfield 11, 3) := by decide +kernel
theorem dX3_tell_54 : decode cX3_tell 54 = .ok (.iload 4, 2) := by decide +kernel
theorem dX3_tell_56 : decode cX3_tell 56 = .ok (.iload_n 1, 1) := by decide +kernel
theorem dX3_tell_57 : decode cX3_tell 57 = .ok (.iload_n 2, 1) := by decide +kernel
set_option maxRecDepth 20000 in
theorem ggX3_tell_X3_pairOf : GoodIn wsX3_tell wsX3_pairOf := goodIn_r _ [12] rfl (by decide +kernel)
set_option maxRecDepth 20000 in
theorem gX3_tell_X3_pairOf : GoodIn wsX3_tell (va_wsS RX3 32 yX3_pairOf wsX3_pairOf) := goodIn_app (goodIn_r _ [10, 11, 7] rfl (by decide +kernel)) ggX3_tell_X3_pairOf
theorem dX3_tell_58 : decode cX3_tell 58 = .ok (.invokestatic 32, 3) := by decide +kernel
theorem dX3_tell_61 : decode cX3_tell 61 = .ok (.iastore, 1) := by decide +kernel
theorem dX3_tell_62 : decode cX3_tell 62 = .ok (.aload_n 0, 1) := by decide +kernel
theorem dX3_tell_63 : decode cX3_tell 63 = .ok (.dup, 1) := by decide +kernel
theorem dX3_tell_64 : decode cX3_tell 64 = .ok (.getfield 24, 3) := by decide +kernel
theorem dX3_tell_67 : decode cX3_tell 67 = .ok (.iconst 1, 1) := by decide +kernel
theorem dX3_tell_68 : decode cX3_tell 68 = .ok (.iadd, 1) := by decide +kernel
theorem dX3_tell_69 : decode cX3_tell 69 = .ok (.putfield 24, 3) := by decide +kernel
theorem dX3_tell_48 : decode cX3_tell 48 = .ok (.iconst 0, 1) := by decide +kernel
theorem dX3_tell_49 : decode cX3_tell 49 = .ok (.ireturn, 1) := by decide +kernel
theorem dX11_cost_0 : decode cX11_cost 0 = .ok (.iload_n 1, 1) := by decide +kernel
set_option maxRecDepth 20000 in
theorem ggX11_cost_X11_isLetter : GoodIn wsX11_cost wsX11_isLetter := goodIn_r _ [6, 7, 8, 9] rfl (by decide +kernel)
set_option maxRecDepth 20000 in
theorem gX11_cost_X11_isLetter : GoodIn wsX11_cost (va_wsS RX11 205 yX11_isLetter wsX11_isLetter) := goodIn_app (goodIn_r _ [3, 4, 5] rfl (by decide +kernel)) ggX11_cost_X11_isLetter
theorem dX11_cost_1 : decode cX11_cost 1 = .ok (.invokestatic 205, 3) := by decide +kernel
theorem dX11_cost_4 : decode cX11_cost 4 = .ok (.ifCond .eq 23, 3) := by decide +kernel
theorem dX11_cost_27 : decode cX11_cost 27 = .ok (.iconst 0, 1) := by decide +kernel
theorem dX11_cost_28 : decode cX11_cost 28 = .ok (.ireturn, 1) := by decide +kernel
theorem dX11_cost_7 : decode cX11_cost 7 = .ok (.iload_n 2, 1) := by decide +kernel
theorem dX11_cost_8 : decode cX11_cost 8 = .ok (.invokestatic 205, 3) := by decide +kernel
theorem dX11_cost_11 : decode cX11_cost 11 = .ok (.ifCond .eq 16, 3) := by decide +kernel
theorem dX11_cost_14 : decode cX11_cost 14 = .ok (.aload_n 0, 1) := by decide +kernel
theorem dX11_cost_15 : decode cX11_cost 15 = .ok (.getfield 52, 3) := by decide +kernel
theorem dX11_cost_18 : decode cX11_cost 18 = .ok (.iload_n 1, 1) := by decide +kernel
theorem dX11_cost_19 : decode cX11_cost 19 = .ok (.iload_n 2, 1) := by decide +kernel
theorem dX11_cost_20 : decode cX11_cost 20 = .ok (.iload_n 3, 1) := by decide +kernel
set_option maxRecDepth 20000 in
theorem ggX11_cost_X3_tell : GoodIn wsX11_cost wsX3_tell := goodIn_r _ [14, 15, 16, 17, 18, 19, 20, 13, 21, 22, 23, 24, 25, 44, 45, 46] rfl (by decide +kernel)
set_option maxRecDepth 20000 in
theorem gX11_cost_X3_tell : GoodIn wsX11_cost (wsV RX11 208 RX3 yX3_tell wsX3_tell) := goodIn_app (goodIn_r _ [10, 11, 12, 13] rfl (by decide +kernel)) ggX11_cost_X3_tell
theorem dX11_cost_21 : decode cX11_cost 21 = .ok (.invokevirtual 208, 3) := by decide +kernel
theorem dX11_cost_24 : decode cX11_cost 24 = .ok (.ifCond .ne 5, 3) := by decide +kernel
theorem dX11_cost_29 : decode cX11_cost 29 = .ok (.aload_n 0, 1) := by decide +kernel
theorem dX11_cost_30 : decode cX11_cost 30 = .ok (.getfield 86, 3) := by decide +kernel
set_option maxRecDepth 20000 in
theorem ggX11_cost_X1_forgetFreshness : GoodIn wsX11_cost wsX1_forgetFreshness := goodIn_r _ [30, 31, 47, 48, 49, 50, 51, 52, 53, 54, 55, 56, 57, 58, 59, 60, 61, 62, 63, 64, 65, 66] rfl (by decide +kernel)
set_option maxRecDepth 20000 in
theorem gX11_cost_X1_forgetFreshness : GoodIn wsX11_cost (wsV RX11 143 RX1 yX1_forgetFreshness wsX1_forgetFreshness) := goodIn_app (goodIn_r _ [26, 27, 28, 29] rfl (by decide +kernel)) ggX11_cost_X1_forgetFreshness
theorem dX11_cost_33 : decode cX11_cost 33 = .ok (.invokevirtual 143, 3) := by decide +kernel
theorem dX11_cost_36 : decode cX11_cost 36 = .ok (.iconst 1, 1) := by decide +kernel
theorem dX11_cost_37 : decode cX11_cost 37 = .ok (.ireturn, 1) := by decide +kernel
theorem dX12_cost_0 : decode cX12_cost 0 = .ok (.aload_n 0, 1) := by decide +kernel
theorem dX12_cost_1 : decode cX12_cost 1 = .ok (.iconst 0, 1) := by decide +kernel
theorem dX12_cost_2 : decode cX12_cost 2 = .ok (.putfield 85, 3) := by decide +kernel
theorem dX12_cost_5 : decode cX12_cost 5 = .ok (.iload_n 1, 1) := by decide +kernel
set_option maxRecDepth 20000 in
theorem ggX12_cost_X12_isLetter : GoodIn wsX12_cost wsX12_isLetter := goodIn_r _ [10, 11, 12, 13] rfl (by decide +kernel)
set_option maxRecDepth 20000 in
theorem gX12_cost_X12_isLetter : GoodIn wsX12_cost (va_wsS RX12 116 yX12_isLetter wsX12_isLetter) := goodIn_app (goodIn_r _ [7, 8, 9] rfl (by decide +kernel)) ggX12_cost_X12_isLetter
theorem dX12_cost_6 : decode cX12_cost 6 = .ok (.invokestatic 116, 3) := by decide +kernel
theorem dX12_cost_9 : decode cX12_cost 9 = .ok (.ifCond .eq 21, 3) := by decide +kernel
theorem dX12_cost_30 : decode cX12_cost 30 = .ok (.iconst 0, 1) := by decide +kernel
theorem dX12_cost_31 : decode cX12_cost 31 = .ok (.ireturn, 1) := by decide +kernel
theorem dX12_cost_12 : decode cX12_cost 12 = .ok (.iload_n 2, 1) := by decide +kernel
theorem dX12_cost_13 : decode cX12_cost 13 = .ok (.invokestatic 116, 3) := by decide +kernel
theorem dX12_cost_16 : decode cX12_cost 16 = .ok (.ifCond .eq 14, 3) := by decide +kernel
theorem dX12_cost_19 : decode cX12_cost 19 = .ok (.iload_n 3, 1) := by decide +kernel
theorem dX12_cost_20 : decode cX12_cost 20 = .ok (.ifCond .lt 10, 3) := by decide +kernel
theorem dX12_cost_23 : decode cX12_cost 23 = .ok (.iload_n 3, 1) := by decide +kernel
theorem dX12_cost_24 : decode cX12_cost 24 = .ok (.sipush 200, 3) := by decide +kernel
theorem dX12_cost_27 : decode cX12_cost 27 = .ok (.if_icmp .le 5, 3) := by decide +kernel
theorem dX12_cost_32 : decode cX12_cost 32 = .ok (.iconst 0, 1) := by decide +kernel
theorem dX12_cost_33 : decode cX12_cost 33 = .ok (.istore 4, 2) := by decide +kernel
theorem dX12_cost_35 : decode cX12_cost 35 = .ok (.iload 4, 2) := by decide +kernel
theorem dX12_cost_37 : decode cX12_cost 37 = .ok (.aload_n 0, 1) := by decide +kernel
theorem dX12_cost_38 : decode cX12_cost 38 = .ok (.getfield 168, 3) := by decide +kernel
theorem dX12_cost_41 : decode cX12_cost 41 = .ok (.if_icmp .ge 31, 3) := by decide +kernel
theorem dX12_cost_72 : decode cX12_cost 72 = .ok (.iload 4, 2) := by decide +kernel
theorem dX12_cost_74 : decode cX12_cost 74 = .ok (.sipush 300, 3) := by decide +kernel
theorem dX12_cost_77 : decode cX12_cost 77 = .ok (.if_icmp .ne 5, 3) := by decide +kernel
theorem dX12_cost_82 : decode cX12_cost 82 = .ok (.aload_n 0, 1) := by decide +kernel
theorem dX12_cost_83 : decode cX12_cost 83 = .ok (.getfield 39, 3) := by decide +kernel
theorem dX12_cost_86 : decode cX12_cost 86 = .ok (.iload 4, 2) := by decide +kernel
theorem dX12_cost_88 : decode cX12_cost 88 = .ok (.iload_n 1, 1) := by decide +kernel
theorem dX12_cost_89 : decode cX12_cost 89 = .ok (.iastore, 1) := by decide +kernel
theorem dX12_cost_90 : decode cX12_cost 90 = .ok (.aload_n 0, 1) := by decide +kernel
theorem dX12_cost_91 : decode cX12_cost 91 = .ok (.getfield 42, 3) := by decide +kernel
theorem dX12_cost_94 : decode cX12_cost 94 = .ok (.iload 4, 2) := by decide +kernel
theorem dX12_cost_96 : decode cX12_cost 96 = .ok (.iload_n 2, 1) := by decide +kernel
theorem dX12_cost_97 : decode cX12_cost 97 = .ok (.iastore, 1) := by decide +kernel
theorem dX12_cost_98 : decode cX12_cost 98 = .ok (.aload_n 0, 1) := by decide +kernel
theorem dX12_cost_99 : decode cX12_cost 99 = .ok (.getfield 45, 3) := by decide +kernel
theorem dX12_cost_102 : decode cX12_cost 102 = .ok (.iload 4, 2) := by decide +kernel
theorem dX12_cost_104 : decode cX12_cost 104 = .ok (.iload_n 3, 1) := by decide +kernel
theorem dX12_cost_105 : decode cX12_cost 105 = .ok (.iastore, 1) := by decide +kernel
theorem dX12_cost_106 : decode cX12_cost 106 = .ok (.iload 4, 2) := by decide +kernel
theorem dX12_cost_108 : decode cX12_cost 108 = .ok (.aload_n 0, 1) := by decide +kernel
theorem dX12_cost_109 : decode cX12_cost 109 = .ok (.getfield 168, 3) := by decide +kernel
theorem dX12_cost_112 : decode cX12_cost 112 = .ok (.if_icmp .ne 13, 3) := by decide +kernel
theorem dX12_cost_125 : decode cX12_cost 125 = .ok (.aload_n 0, 1) := by decide +kernel
theorem dX12_cost_126 : decode cX12_cost 126 = .ok (.dup, 1) := by decide +kernel
theorem dX12_cost_127 : decode cX12_cost 127 = .ok (.getfield 148, 3) := by decide +kernel
theorem dX12_cost_130 : decode cX12_cost 130 = .ok (.iconst 1, 1) := by decide +kernel
theorem dX12_cost_131 : decode cX12_cost 131 = .ok (.iadd, 1) := by decide +kernel
theorem dX12_cost_132 : decode cX12_cost 132 = .ok (.putfield 148, 3) := by decide +kernel
theorem dX12_cost_135 : decode cX12_cost 135 = .ok (.iconst 1, 1) := by decide +kernel
theorem dX12_cost_136 : decode cX12_cost 136 = .ok (.ireturn, 1) := by decide +kernel
theorem dX12_cost_115 : decode cX12_cost 115 = .ok (.aload_n 0, 1) := by decide +kernel
theorem dX12_cost_116 : decode cX12_cost 116 = .ok (.dup, 1) := by decide +kernel
theorem dX12_cost_117 : decode cX12_cost 117 = .ok (.getfield 168, 3) := by decide +kernel
theorem dX12_cost_120 : decode cX12_cost 120 = .ok (.iconst 1, 1) := by decide +kernel
theorem dX12_cost_121 : decode cX12_cost 121 = .ok (.iadd, 1) := by decide +kernel
theorem dX12_cost_122 : decode cX12_cost 122 = .ok (.putfield 168, 3) := by decide +kernel
theorem dX12_cost_80 : decode cX12_cost 80 = .ok (.iconst 0, 1) := by decide +kernel
theorem dX12_cost_81 : decode cX12_cost 81 = .ok (.ireturn, 1) := by decide +kernel
theorem dX12_cost_44 : decode cX12_cost 44 = .ok (.aload_n 0, 1) := by decide +kernel
theorem dX12_cost_45 : decode cX12_cost 45 = .ok (.getfield 39, 3) := by decide +kernel
theorem dX12_cost_48 : decode cX12_cost 48 = .ok (.iload 4, 2) := by decide +kernel
theorem dX12_cost_50 : decode cX12_cost 50 = .ok (.iaload, 1) := by decide +kernel
theorem dX12_cost_51 : decode cX12_cost 51 = .ok (.iload_n 1, 1) := by decide +kernel
theorem dX12_cost_52 : decode cX12_cost 52 = .ok (.if_icmp .ne 14, 3) := by decide +kernel
theorem dX12_cost_66 : decode cX12_cost 66 = .ok (.iinc 4 1, 3) := by decide +kernel
theorem dX12_cost_69 : decode cX12_cost 69 = .ok (.goto (-34), 3) := by decide +kernel
theorem dX12_cost_55 : decode cX12_cost 55 = .ok (.aload_n 0, 1) := by decide +kernel
theorem dX12_cost_56 : decode cX12_cost 56 = .ok (.getfield 42, 3) := by decide +kernel
theorem dX12_cost_59 : decode cX12_cost 59 = .ok (.iload 4, 2) := by decide +kernel
theorem dX12_cost_61 : decode cX12_cost 61 = .ok (.iaload, 1) := by decide +kernel
theorem dX12_cost_62 : decode cX12_cost 62 = .ok (.iload_n 2, 1) := by decide +kernel
theorem dX12_cost_63 : decode cX12_cost 63 = .ok (.if_icmp .eq 9, 3) := by decide +kernel
theorem dX4_tell_0 : decode cX4_tell 0 = .ok (.iconst 0, 1) := by decide +kernel
theorem dX4_tell_1 : decode cX4_tell 1 = .ok (.istore_n 3, 1) := by decide +kernel
theorem dX4_tell_2 : decode cX4_tell 2 = .ok (.iload_n 3, 1) := by decide +kernel
theorem dX4_tell_3 : decode cX4_tell 3 = .ok (.aload_n 0, 1) := by decide +kernel
theorem dX4_tell_4 : decode cX4_tell 4 = .ok (.getfield 22, 3) := by decide +kernel
theorem dX4_tell_7 : decode cX4_tell 7 = .ok (.if_icmp .ge 31, 3) := by decide +kernel
theorem dX4_tell_38 : decode cX4_tell 38 = .ok (.aload_n 0, 1) := by decide +kernel
theorem dX4_tell_39 : decode cX4_tell 39 = .ok (.getfield 22, 3) := by decide +kernel
theorem dX4_tell_42 : decode cX4_tell 42 = .ok (.bipush 6, 2) := by decide +kernel
theorem dX4_tell_44 : decode cX4_tell 44 = .ok (.if_icmp .lt 5, 3) := by decide +kernel
theorem dX4_tell_49 : decode cX4_tell 49 = .ok (.aload_n 0, 1) := by decide +kernel
theorem dX4_tell_50 : decode cX4_tell 50 = .ok (.getfield 9, 3) := by decide +kernel
theorem dX4_tell_53 : decode cX4_tell 53 = .ok (.aload_n 0, 1) := by decide +kernel
theorem dX4_tell_54 : decode cX4_tell 54 = .ok (.getfield 22, 3) := by decide +kernel
theorem dX4_tell_57 : decode cX4_tell 57 = .ok (.iload_n 1, 1) := by decide +kernel
theorem dX4_tell_58 : decode cX4_tell 58 = .ok (.iastore, 1) := by decide +kernel
theorem dX4_tell_59 : decode cX4_tell 59 = .ok (.aload_n 0, 1) := by decide +kernel
theorem dX4_tell_60 : decode cX4_tell 60 = .ok (.getfield 15, 3) := by decide +kernel
theorem dX4_tell_63 : decode cX4_tell 63 = .ok (.aload_n 0, 1) := by decide +kernel
theorem dX4_tell_64 : decode cX4_tell 64 = .ok (.getfield 22, 3) := by decide +kernel
theorem dX4_tell_67 : decode cX4_tell 67 = .ok (.iload_n 2, 1) := by decide +kernel
theorem dX4_tell_68 : decode cX4_tell 68 = .ok (.iastore, 1) := by decide +kernel
theorem dX4_tell_69 : decode cX4_tell 69 = .ok (.aload_n 0, 1) := by decide +kernel
theorem dX4_tell_70 : decode cX4_tell 70 = .ok (.dup, 1) := by decide +kernel
theorem dX4_tell_71 : decode cX4_tell 71 = .ok (.getfield 22, 3) := by decide +kernel
theorem dX4_tell_74 : decode cX4_tell 74 = .ok (.iconst 1, 1) := by decide +kernel
theorem dX4_tell_75 : decode cX4_tell 75 = .ok (.iadd, 1) := by decide +kernel
theorem dX4_tell_76 : decode cX4_tell 76 = .ok (.putfield 22, 3) := by decide +kernel
theorem dX4_tell_79 : decode cX4_tell 79 = .ok (.iconst 1, 1) := by decide +kernel
theorem dX4_tell_80 : decode cX4_tell 80 = .ok (.ireturn, 1) := by decide +kernel
theorem dX4_tell_47 : decode cX4_tell 47 = .ok (.iconst 0, 1) := by decide +kernel
theorem dX4_tell_48 : decode cX4_tell 48 = .ok (.ireturn, 1) := by decide +kernel
theorem dX4_tell_10 : decode cX4_tell 10 = .ok (.aload_n 0, 1) := by decide +kernel
theorem dX4_tell_11 : decode cX4_tell 11 = .ok (.getfield 9, 3) := by decide +kernel
theorem dX4_tell_14 : decode cX4_tell 14 = .ok (.iload_n 3, 1) := by decide +kernel
theorem dX4_tell_15 : decode cX4_tell 15 = .ok (.iaload, 1) := by decide +kernel
theorem dX4_tell_16 : decode cX4_tell 16 = .ok (.iload_n 1, 1) := by decide +kernel
theorem dX4_tell_17 : decode cX4_tell 17 = .ok (.if_icmp .ne 15, 3) := by decide +kernel
theorem dX4_tell_32 : decode cX4_tell 32 = .ok (.iinc 3 1, 3) := by decide +kernel
theorem dX4_tell_35 : decode cX4_tell 35 = .ok (.goto (-33), 3) := by decide +kernel
theorem dX4_tell_20 : decode cX4_tell 20 = .ok (.aload_n 0, 1) := by decide +kernel
theorem dX4_tell_21 : decode cX4_tell 21 = .ok (.getfield 15, 3) := by decide +kernel
theorem dX4_tell_24 : decode cX4_tell 24 = .ok (.iload_n 3, 1) := by decide +kernel
theorem dX4_tell_25 : decode cX4_tell 25 = .ok (.iaload, 1) := by decide +kernel
theorem dX4_tell_26 : decode cX4_tell 26 = .ok (.iload_n 2, 1) := by decide +kernel
theorem dX4_tell_27 : decode cX4_tell 27 = .ok (.if_icmp .ne 5, 3) := by decide +kernel
theorem dX4_tell_30 : decode cX4_tell 30 = .ok (.iconst 0, 1) := by decide +kernel
theorem dX4_tell_31 : decode cX4_tell 31 = .ok (.ireturn, 1) := by decide +kernel
theorem dX11_list_0 : decode cX11_list 0 = .ok (.aload_n 0, 1) := by decide +kernel
theorem dX11_list_1 : decode cX11_list 1 = .ok (.iconst (-1), 1) := by decide +kernel
theorem dX11_list_2 : decode cX11_list 2 = .ok (.putfield 90, 3) := by decide +kernel
theorem dX11_list_5 : decode cX11_list 5 = .ok (.iload_n 1, 1) := by decide +kernel
set_option maxRecDepth 20000 in
theorem ggX11_list_X2_known : GoodIn wsX11_list wsX2_known := goodIn_r _ [7] rfl (by decide +kernel)
set_option maxRecDepth 20000 in
theorem gX11_list_X2_known : GoodIn wsX11_list (va_wsS RX11 117 yX2_known wsX2_known) := goodIn_app (goodIn_r _ [4, 5, 6] rfl (by decide +kernel)) ggX11_list_X2_known
theorem dX11_list_6 : decode cX11_list 6 = .ok (.invokestatic 117, 3) := by decide +kernel
theorem dX11_list_9 : decode cX11_list 9 = .ok (.ifCond .eq 22, 3) := by decide +kernel
theorem dX11_list_31 : decode cX11_list 31 = .ok (.iconst (-1), 1) := by decide +kernel
theorem dX11_list_32 : decode cX11_list 32 = .ok (.ireturn, 1) := by decide +kernel
theorem dX11_list_12 : decode cX11_list 12 = .ok (.iload_n 2, 1) := by decide +kernel
theorem dX11_list_13 : decode cX11_list 13 = .ok (.invokestatic 117, 3) := by decide +kernel
theorem dX11_list_16 : decode cX11_list 16 = .ok (.ifCond .eq 15, 3) := by decide +kernel
theorem dX11_list_19 : decode cX11_list 19 = .ok (.aload_n 0, 1) := by decide +kernel
theorem dX11_list_20 : decode cX11_list 20 = .ok (.getfield 48, 3) := by decide +kernel
theorem dX11_list_23 : decode cX11_list 23 = .ok (.iload_n 1, 1) := by decide +kernel
theorem dX11_list_24 : decode cX11_list 24 = .ok (.iload_n 2, 1) := by decide +kernel
set_option maxRecDepth 20000 in
theorem ggX11_list_X4_tell : GoodIn wsX11_list wsX4_tell := goodIn_r _ [12, 13, 14, 15, 38, 39, 40, 41] rfl (by decide +kernel)
set_option maxRecDepth 20000 in
theorem gX11_list_X4_tell : GoodIn wsX11_list (wsV RX11 191 RX4 yX4_tell wsX4_tell) := goodIn_app (goodIn_r _ [8, 9, 10, 11] rfl (by decide +kernel)) ggX11_list_X4_tell
theorem dX11_list_25 : decode cX11_list 25 = .ok (.invokevirtual 191, 3) := by decide +kernel
theorem dX11_list_28 : decode cX11_list 28 = .ok (.ifCond .ne 5, 3) := by decide +kernel
theorem dX11_list_33 : decode cX11_list 33 = .ok (.aload_n 0, 1) := by decide +kernel
theorem dX11_list_34 : decode cX11_list 34 = .ok (.getfield 86, 3) := by decide +kernel
set_option maxRecDepth 20000 in
theorem ggX11_list_X1_forgetFreshness : GoodIn wsX11_list wsX1_forgetFreshness := goodIn_r _ [20, 21, 42, 43, 44, 45, 46, 47, 48, 49, 50, 51, 52, 53, 54, 55, 56, 57, 58, 59, 60, 61] rfl (by decide +kernel)
set_option maxRecDepth 20000 in
theorem gX11_list_X1_forgetFreshness : GoodIn wsX11_list (wsV RX11 143 RX1 yX1_forgetFreshness wsX1_forgetFreshness) := goodIn_app (goodIn_r _ [16, 17, 18, 19] rfl (by decide +kernel)) ggX11_list_X1_forgetFreshness
theorem dX11_list_37 : decode cX11_list 37 = .ok (.invokevirtual 143, 3) := by decide +kernel
theorem dX11_list_40 : decode cX11_list 40 = .ok (.aload_n 0, 1) := by decide +kernel
theorem dX11_list_41 : decode cX11_list 41 = .ok (.getfield 48, 3) := by decide +kernel
set_option maxRecDepth 20000 in
theorem ggX11_list_X4_length : GoodIn wsX11_list wsX4_length := goodIn_r _ [25, 13, 38, 39, 40, 41] rfl (by decide +kernel)
set_option maxRecDepth 20000 in
theorem gX11_list_X4_length : GoodIn wsX11_list (wsV RX11 150 RX4 yX4_length wsX4_length) := goodIn_app (goodIn_r _ [22, 23, 24, 11] rfl (by decide +kernel)) ggX11_list_X4_length
theorem dX11_list_44 : decode cX11_list 44 = .ok (.invokevirtual 150, 3) := by decide +kernel
theorem dX11_list_47 : decode cX11_list 47 = .ok (.iconst 1, 1) := by decide +kernel
theorem dX11_list_48 : decode cX11_list 48 = .ok (.isub, 1) := by decide +kernel
theorem dX11_list_49 : decode cX11_list 49 = .ok (.ireturn, 1) := by decide +kernel
theorem dX11_unlist_0 : decode cX11_unlist 0 = .ok (.aload_n 0, 1) := by decide +kernel
theorem dX11_unlist_1 : decode cX11_unlist 1 = .ok (.getfield 48, 3) := by decide +kernel
set_option maxRecDepth 20000 in
theorem ggX11_unlist_X4_length : GoodIn wsX11_unlist wsX4_length := goodIn_r _ [7, 8, 31, 32, 33, 34] rfl (by decide +kernel)
set_option maxRecDepth 20000 in
theorem gX11_unlist_X4_length : GoodIn wsX11_unlist (wsV RX11 150 RX4 yX4_length wsX4_length) := goodIn_app (goodIn_r _ [3, 4, 5, 6] rfl (by decide +kernel)) ggX11_unlist_X4_length
theorem dX11_unlist_4 : decode cX11_unlist 4 = .ok (.invokevirtual 150, 3) := by decide +kernel
theorem dX11_unlist_7 : decode cX11_unlist 7 = .ok (.istore_n 1, 1) := by decide +kernel
theorem dX11_unlist_8 : decode cX11_unlist 8 = .ok (.aload_n 0, 1) := by decide +kernel
theorem dX11_unlist_9 : decode cX11_unlist 9 = .ok (.getfield 48, 3) := by decide +kernel
set_option maxRecDepth 20000 in
theorem ggX11_unlist_X4_empty : GoodIn wsX11_unlist wsX4_empty := goodIn_r _ [12, 8, 31, 32, 33, 34] rfl (by decide +kernel)
set_option maxRecDepth 20000 in
theorem gX11_unlist_X4_empty : GoodIn wsX11_unlist (wsV RX11 193 RX4 yX4_empty wsX4_empty) := goodIn_app (goodIn_r _ [9, 10, 11, 6] rfl (by decide +kernel)) ggX11_unlist_X4_empty
theorem dX11_unlist_12 : decode cX11_unlist 12 = .ok (.invokevirtual 193, 3) := by decide +kernel
theorem dX11_unlist_15 : decode cX11_unlist 15 = .ok (.aload_n 0, 1) := by decide +kernel
theorem dX11_unlist_16 : decode cX11_unlist 16 = .ok (.getfield 86, 3) := by decide +kernel
set_option maxRecDepth 20000 in
theorem ggX11_unlist_X1_forgetFreshness : GoodIn wsX11_unlist wsX1_forgetFreshness := goodIn_r _ [17, 18, 35, 36, 37, 38, 39, 40, 41, 42, 43, 44, 45, 46, 47, 48, 49, 50, 51, 52, 53, 54] rfl (by decide +kernel)
set_option maxRecDepth 20000 in
theorem gX11_unlist_X1_forgetFreshness : GoodIn wsX11_unlist (wsV RX11 143 RX1 yX1_forgetFreshness wsX1_forgetFreshness) := goodIn_app (goodIn_r _ [13, 14, 15, 16] rfl (by decide +kernel)) ggX11_unlist_X1_forgetFreshness
theorem dX11_unlist_19 : decode cX11_unlist 19 = .ok (.invokevirtual 143, 3) := by decide +kernel
theorem dX11_unlist_22 : decode cX11_unlist 22 = .ok (.iload_n 1, 1) := by decide +kernel
theorem dX11_unlist_23 : decode cX11_unlist 23 = .ok (.ireturn, 1) := by decide +kernel
theorem dX12_list_0 : decode cX12_list 0 = .ok (.aload_n 0, 1) := by decide +kernel
theorem dX12_list_1 : decode cX12_list 1 = .ok (.iconst 0, 1) := by decide +kernel
theorem dX12_list_2 : decode cX12_list 2 = .ok (.putfield 85, 3) := by decide +kernel
theorem dX12_list_5 : decode cX12_list 5 = .ok (.aload_n 0, 1) := by decide +kernel
theorem dX12_list_6 : decode cX12_list 6 = .ok (.iconst (-1), 1) := by decide +kernel
theorem dX12_list_7 : decode cX12_list 7 = .ok (.putfield 55, 3) := by decide +kernel
theorem dX12_list_10 : decode cX12_list 10 = .ok (.iload_n 1, 1) := by decide +kernel
set_option maxRecDepth 20000 in
theorem ggX12_list_X12_isCode : GoodIn wsX12_list wsX12_isCode := goodIn_r _ [10] rfl (by decide +kernel)
set_option maxRecDepth 20000 in
theorem gX12_list_X12_isCode : GoodIn wsX12_list (va_wsS RX12 158 yX12_isCode wsX12_isCode) := goodIn_app (goodIn_r _ [7, 8, 9] rfl (by decide +kernel)) ggX12_list_X12_isCode
theorem dX12_list_11 : decode cX12_list 11 = .ok (.invokestatic 158, 3) := by decide +kernel
theorem dX12_list_14 : decode cX12_list 14 = .ok (.ifCond .eq 19, 3) := by decide +kernel
theorem dX12_list_33 : decode cX12_list 33 = .ok (.iconst (-1), 1) := by decide +kernel
theorem dX12_list_34 : decode cX12_list 34 = .ok (.ireturn, 1) := by decide +kernel
theorem dX12_list_17 : decode cX12_list 17 = .ok (.iload_n 2, 1) := by decide +kernel
theorem dX12_list_18 : decode cX12_list 18 = .ok (.invokestatic 158, 3) := by decide +kernel
theorem dX12_list_21 : decode cX12_list 21 = .ok (.ifCond .eq 12, 3) := by decide +kernel
theorem dX12_list_24 : decode cX12_list 24 = .ok (.aload_n 0, 1) := by decide +kernel
theorem dX12_list_25 : decode cX12_list 25 = .ok (.getfield 161, 3) := by decide +kernel
theorem dX12_list_28 : decode cX12_list 28 = .ok (.bipush 6, 2) := by decide +kernel
theorem dX12_list_30 : decode cX12_list 30 = .ok (.if_icmp .ne 5, 3) := by decide +kernel
theorem dX12_list_35 : decode cX12_list 35 = .ok (.iconst 0, 1) := by decide +kernel
theorem dX12_list_36 : decode cX12_list 36 = .ok (.istore_n 3, 1) := by decide +kernel
theorem dX12_list_37 : decode cX12_list 37 = .ok (.iload_n 3, 1) := by decide +kernel
theorem dX12_list_38 : decode cX12_list 38 = .ok (.aload_n 0, 1) := by decide +kernel
theorem dX12_list_39 : decode cX12_list 39 = .ok (.getfield 161, 3) := by decide +kernel
theorem dX12_list_42 : decode cX12_list 42 = .ok (.if_icmp .ge 31, 3) := by decide +kernel
theorem dX12_list_73 : decode cX12_list 73 = .ok (.aload_n 0, 1) := by decide +kernel
theorem dX12_list_74 : decode cX12_list 74 = .ok (.getfield 30, 3) := by decide +kernel
theorem dX12_list_77 : decode cX12_list 77 = .ok (.aload_n 0, 1) := by decide +kernel
theorem dX12_list_78 : decode cX12_list 78 = .ok (.getfield 161, 3) := by decide +kernel
theorem dX12_list_81 : decode cX12_list 81 = .ok (.iload_n 1, 1) := by decide +kernel
theorem dX12_list_82 : decode cX12_list 82 = .ok (.iastore, 1) := by decide +kernel
theorem dX12_list_83 : decode cX12_list 83 = .ok (.aload_n 0, 1) := by decide +kernel
theorem dX12_list_84 : decode cX12_list 84 = .ok (.getfield 33, 3) := by decide +kernel
theorem dX12_list_87 : decode cX12_list 87 = .ok (.aload_n 0, 1) := by decide +kernel
theorem dX12_list_88 : decode cX12_list 88 = .ok (.getfield 161, 3) := by decide +kernel
theorem dX12_list_91 : decode cX12_list 91 = .ok (.iload_n 2, 1) := by decide +kernel
theorem dX12_list_92 : decode cX12_list 92 = .ok (.iastore, 1) := by decide +kernel
theorem dX12_list_93 : decode cX12_list 93 = .ok (.aload_n 0, 1) := by decide +kernel
theorem dX12_list_94 : decode cX12_list 94 = .ok (.dup, 1) := by decide +kernel
theorem dX12_list_95 : decode cX12_list 95 = .ok (.getfield 161, 3) := by decide +kernel
theorem dX12_list_98 : decode cX12_list 98 = .ok (.iconst 1, 1) := by decide +kernel
theorem dX12_list_99 : decode cX12_list 99 = .ok (.iadd, 1) := by decide +kernel
theorem dX12_list_100 : decode cX12_list 100 = .ok (.putfield 161, 3) := by decide +kernel
theorem dX12_list_103 : decode cX12_list 103 = .ok (.aload_n 0, 1) := by decide +kernel
theorem dX12_list_104 : decode cX12_list 104 = .ok (.dup, 1) := by decide +kernel
theorem dX12_list_105 : decode cX12_list 105 = .ok (.getfield 148, 3) := by decide +kernel
theorem dX12_list_108 : decode cX12_list 108 = .ok (.iconst 1, 1) := by decide +kernel
theorem dX12_list_109 : decode cX12_list 109 = .ok (.iadd, 1) := by decide +kernel
theorem dX12_list_110 : decode cX12_list 110 = .ok (.putfield 148, 3) := by decide +kernel
theorem dX12_list_113 : decode cX12_list 113 = .ok (.aload_n 0, 1) := by decide +kernel
theorem dX12_list_114 : decode cX12_list 114 = .ok (.getfield 161, 3) := by decide +kernel
theorem dX12_list_117 : decode cX12_list 117 = .ok (.iconst 1, 1) := by decide +kernel
theorem dX12_list_118 : decode cX12_list 118 = .ok (.isub, 1) := by decide +kernel
theorem dX12_list_119 : decode cX12_list 119 = .ok (.ireturn, 1) := by decide +kernel
theorem dX12_list_45 : decode cX12_list 45 = .ok (.aload_n 0, 1) := by decide +kernel
theorem dX12_list_46 : decode cX12_list 46 = .ok (.getfield 30, 3) := by decide +kernel
theorem dX12_list_49 : decode cX12_list 49 = .ok (.iload_n 3, 1) := by decide +kernel
theorem dX12_list_50 : decode cX12_list 50 = .ok (.iaload, 1) := by decide +kernel
theorem dX12_list_51 : decode cX12_list 51 = .ok (.iload_n 1, 1) := by decide +kernel
theorem dX12_list_52 : decode cX12_list 52 = .ok (.if_icmp .ne 15, 3) := by decide +kernel
theorem dX12_list_67 : decode cX12_list 67 = .ok (.iinc 3 1, 3) := by decide +kernel
theorem dX12_list_70 : decode cX12_list 70 = .ok (.goto (-33), 3) := by decide +kernel
theorem dX12_list_55 : decode cX12_list 55 = .ok (.aload_n 0, 1) := by decide +kernel
theorem dX12_list_56 : decode cX12_list 56 = .ok (.getfield 33, 3) := by decide +kernel
theorem dX12_list_59 : decode cX12_list 59 = .ok (.iload_n 3, 1) := by decide +kernel
theorem dX12_list_60 : decode cX12_list 60 = .ok (.iaload, 1) := by decide +kernel
theorem dX12_list_61 : decode cX12_list 61 = .ok (.iload_n 2, 1) := by decide +kernel
theorem dX12_list_62 : decode cX12_list 62 = .ok (.if_icmp .ne 5, 3) := by decide +kernel
theorem dX12_list_65 : decode cX12_list 65 = .ok (.iconst (-1), 1) := by decide +kernel
theorem dX12_list_66 : decode cX12_list 66 = .ok (.ireturn, 1) := by decide +kernel
theorem dX12_unlist_0 : decode cX12_unlist 0 = .ok (.aload_n 0, 1) := by decide +kernel
theorem dX12_unlist_1 : decode cX12_unlist 1 = .ok (.iconst 0, 1) := by decide +kernel
theorem dX12_unlist_2 : decode cX12_unlist 2 = .ok (.putfield 85, 3) := by decide +kernel
theorem dX12_unlist_5 : decode cX12_unlist 5 = .ok (.aload_n 0, 1) := by decide +kernel
theorem dX12_unlist_6 : decode cX12_unlist 6 = .ok (.getfield 161, 3) := by decide +kernel
theorem dX12_unlist_9 : decode cX12_unlist 9 = .ok (.istore_n 1, 1) := by decide +kernel
theorem dX12_unlist_10 : decode cX12_unlist 10 = .ok (.aload_n 0, 1) := by decide +kernel
theorem dX12_unlist_11 : decode cX12_unlist 11 = .ok (.iconst 0, 1) := by decide +kernel
theorem dX12_unlist_12 : decode cX12_unlist 12 = .ok (.putfield 161, 3) := by decide +kernel
theorem dX12_unlist_15 : decode cX12_unlist 15 = .ok (.aload_n 0, 1) := by decide +kernel
theorem dX12_unlist_16 : decode cX12_unlist 16 = .ok (.dup, 1) := by decide +kernel
theorem dX12_unlist_17 : decode cX12_unlist 17 = .ok (.getfield 148, 3) := by decide +kernel
theorem dX12_unlist_20 : decode cX12_unlist 20 = .ok (.iconst 1, 1) := by decide +kernel
theorem dX12_unlist_21 : decode cX12_unlist 21 = .ok (.iadd, 1) := by decide +kernel
theorem dX12_unlist_22 : decode cX12_unlist 22 = .ok (.putfield 148, 3) := by decide +kernel
theorem dX12_unlist_25 : decode cX12_unlist 25 = .ok (.iload_n 1, 1) := by decide +kernel
theorem dX12_unlist_26 : decode cX12_unlist 26 = .ok (.ireturn, 1) := by decide +kernel
theorem dX10_canTake_0 : decode cX10_canTake 0 = .ok (.iload_n 1, 1) := by decide +kernel
theorem dX10_canTake_1 : decode cX10_canTake 1 = .ok (.ifCond .lt 28, 3) := by decide +kernel
theorem dX10_canTake_29 : decode cX10_canTake 29 = .ok (.iconst 0, 1) := by decide +kernel
theorem dX10_canTake_30 : decode cX10_canTake 30 = .ok (.istore 5, 2) := by decide +kernel
theorem dX10_canTake_32 : decode cX10_canTake 32 = .ok (.iload 5, 2) := by decide +kernel
theorem dX10_canTake_34 : decode cX10_canTake 34 = .ok (.ifCond .eq 26, 3) := by decide +kernel
theorem dX10_canTake_60 : decode cX10_canTake 60 = .ok (.iconst 0, 1) := by decide +kernel
theorem dX10_canTake_61 : decode cX10_canTake 61 = .ok (.ireturn, 1) := by decide +kernel
theorem dX10_canTake_4 : decode cX10_canTake 4 = .ok (.iload_n 1, 1) := by decide +kernel
theorem dX10_canTake_5 : decode cX10_canTake 5 = .ok (.sipush 256, 3) := by decide +kernel
theorem dX10_canTake_8 : decode cX10_canTake 8 = .ok (.if_icmp .ge 21, 3) := by decide +kernel
theorem dX10_canTake_11 : decode cX10_canTake 11 = .ok (.iload_n 2, 1) := by decide +kernel
theorem dX10_canTake_12 : decode cX10_canTake 12 = .ok (.iconst 1, 1) := by decide +kernel
theorem dX10_canTake_13 : decode cX10_canTake 13 = .ok (.if_icmp .lt 16, 3) := by decide +kernel
theorem dX10_canTake_16 : decode cX10_canTake 16 = .ok (.iload_n 2, 1) := by decide +kernel
theorem dX10_canTake_17 : decode cX10_canTake 17 = .ok (.sipush 256, 3) := by decide +kernel
theorem dX10_canTake_20 : decode cX10_canTake 20 = .ok (.iload_n 1, 1) := by decide +kernel
theorem dX10_canTake_21 : decode cX10_canTake 21 = .ok (.isub, 1) := by decide +kernel
theorem dX10_canTake_22 : decode cX10_canTake 22 = .ok (.if_icmp .gt 7, 3) := by decide +kernel
theorem dX10_canTake_25 : decode cX10_canTake 25 = .ok (.iconst 1, 1) := by decide +kernel
theorem dX10_canTake_26 : decode cX10_canTake 26 = .ok (.goto 4, 3) := by decide +kernel
theorem dX10_canTake_37 : decode cX10_canTake 37 = .ok (.iload 4, 2) := by decide +kernel
theorem dX10_canTake_39 : decode cX10_canTake 39 = .ok (.sipush (-255), 3) := by decide +kernel
theorem dX10_canTake_42 : decode cX10_canTake 42 = .ok (.if_icmp .lt 18, 3) := by decide +kernel
theorem dX10_canTake_45 : decode cX10_canTake 45 = .ok (.iload 4, 2) := by decide +kernel
theorem dX10_canTake_47 : decode cX10_canTake 47 = .ok (.sipush 255, 3) := by decide +kernel
theorem dX10_canTake_50 : decode cX10_canTake 50 = .ok (.if_icmp .gt 10, 3) := by decide +kernel
theorem dX10_canTake_53 : decode cX10_canTake 53 = .ok (.iload_n 3, 1) := by decide +kernel
set_option maxRecDepth 20000 in
theorem ggX10_canTake_X11_isLetter : GoodIn wsX10_canTake wsX11_isLetter := goodIn_r _ [3, 4, 5, 6] rfl (by decide +kernel)
set_option maxRecDepth 20000 in
theorem gX10_canTake_X11_isLetter_n35 : GoodIn wsX10_canTake (wsX11_isLetter) := ggX10_canTake_X11_isLetter
theorem dX10_canTake_54 : decode cX10_canTake 54 = .ok (.invokestatic 35, 3) := by decide +kernel
theorem dX10_canTake_57 : decode cX10_canTake 57 = .ok (.ifCond .ne 5, 3) := by decide +kernel
theorem dX10_canTake_62 : decode cX10_canTake 62 = .ok (.iload 4, 2) := by decide +kernel
theorem dX10_canTake_64 : decode cX10_canTake 64 = .ok (.ifCond .ne 10, 3) := by decide +kernel
theorem dX10_canTake_74 : decode cX10_canTake 74 = .ok (.iconst 0, 1) := by decide +kernel
theorem dX10_canTake_75 : decode cX10_canTake 75 = .ok (.istore 6, 2) := by decide +kernel
theorem dX10_canTake_77 : decode cX10_canTake 77 = .ok (.iload 6, 2) := by decide +kernel
theorem dX10_canTake_79 : decode cX10_canTake 79 = .ok (.iload_n 2, 1) := by decide +kernel
theorem dX10_canTake_80 : decode cX10_canTake 80 = .ok (.if_icmp .ge 50, 3) := by decide +kernel
theorem dX10_canTake_130 : decode cX10_canTake 130 = .ok (.iconst 1, 1) := by decide +kernel
theorem dX10_canTake_131 : decode cX10_canTake 131 = .ok (.ireturn, 1) := by decide +kernel
theorem dX10_canTake_83 : decode cX10_canTake 83 = .ok (.iload_n 3, 1) := by decide +kernel
theorem dX10_canTake_84 : decode cX10_canTake 84 = .ok (.iload 6, 2) := by decide +kernel
theorem dX10_canTake_86 : decode cX10_canTake 86 = .ok (.iload 4, 2) := by decide +kernel
theorem dX10_canTake_88 : decode cX10_canTake 88 = .ok (.imul, 1) := by decide +kernel
theorem dX10_canTake_89 : decode cX10_canTake 89 = .ok (.iadd, 1) := by decide +kernel
theorem dX10_canTake_90 : decode cX10_canTake 90 = .ok (.istore 7, 2) := by decide +kernel
theorem dX10_canTake_92 : decode cX10_canTake 92 = .ok (.iload 7, 2) := by decide +kernel
theorem dX10_canTake_94 : decode cX10_canTake 94 = .ok (.invokestatic 35, 3) := by decide +kernel
theorem dX10_canTake_97 : decode cX10_canTake 97 = .ok (.ifCond .eq 25, 3) := by decide +kernel
theorem dX10_canTake_122 : decode cX10_canTake 122 = .ok (.iconst 0, 1) := by decide +kernel
theorem dX10_canTake_123 : decode cX10_canTake 123 = .ok (.ireturn, 1) := by decide +kernel
theorem dX10_canTake_100 : decode cX10_canTake 100 = .ok (.aload_n 0, 1) := by decide +kernel
theorem dX10_canTake_101 : decode cX10_canTake 101 = .ok (.iload_n 1, 1) := by decide +kernel
theorem dX10_canTake_102 : decode cX10_canTake 102 = .ok (.iload 6, 2) := by decide +kernel
theorem dX10_canTake_104 : decode cX10_canTake 104 = .ok (.iadd, 1) := by decide +kernel
set_option maxRecDepth 20000 in
theorem ggX10_canTake_X10_letterFor : GoodIn wsX10_canTake wsX10_letterFor := goodIn_r _ [11, 12, 24, 25, 26, 27] rfl (by decide +kernel)
set_option maxRecDepth 20000 in
theorem gX10_canTake_X10_letterFor : GoodIn wsX10_canTake (wsV RX10 39 RX10 yX10_letterFor wsX10_letterFor) := goodIn_app (goodIn_r _ [7, 8, 9, 10] rfl (by decide +kernel)) ggX10_canTake_X10_letterFor
theorem dX10_canTake_105 : decode cX10_canTake 105 = .ok (.invokevirtual 39, 3) := by decide +kernel
theorem dX10_canTake_108 : decode cX10_canTake 108 = .ok (.iconst (-1), 1) := by decide +kernel
theorem dX10_canTake_109 : decode cX10_canTake 109 = .ok (.if_icmp .ne 13, 3) := by decide +kernel
theorem dX10_canTake_112 : decode cX10_canTake 112 = .ok (.aload_n 0, 1) := by decide +kernel
theorem dX10_canTake_113 : decode cX10_canTake 113 = .ok (.iload 7, 2) := by decide +kernel
set_option maxRecDepth 20000 in
theorem ggX10_canTake_X10_byteFor : GoodIn wsX10_canTake wsX10_byteFor := goodIn_r _ [16, 17, 18, 19, 20, 10, 21, 22, 23, 24, 25, 26, 27] rfl (by decide +kernel)
set_option maxRecDepth 20000 in
theorem gX10_canTake_X10_byteFor : GoodIn wsX10_canTake (wsV RX10 42 RX10 yX10_byteFor wsX10_byteFor) := goodIn_app (goodIn_r _ [13, 14, 15, 10] rfl (by decide +kernel)) ggX10_canTake_X10_byteFor
theorem dX10_canTake_115 : decode cX10_canTake 115 = .ok (.invokevirtual 42, 3) := by decide +kernel
theorem dX10_canTake_118 : decode cX10_canTake 118 = .ok (.iconst (-1), 1) := by decide +kernel
theorem dX10_canTake_119 : decode cX10_canTake 119 = .ok (.if_icmp .eq 5, 3) := by decide +kernel
theorem dX10_canTake_124 : decode cX10_canTake 124 = .ok (.iinc 6 1, 3) := by decide +kernel
theorem dX10_canTake_127 : decode cX10_canTake 127 = .ok (.goto (-50), 3) := by decide +kernel
theorem dX10_canTake_67 : decode cX10_canTake 67 = .ok (.iload_n 2, 1) := by decide +kernel
theorem dX10_canTake_68 : decode cX10_canTake 68 = .ok (.iconst 1, 1) := by decide +kernel
theorem dX10_canTake_69 : decode cX10_canTake 69 = .ok (.if_icmp .le 5, 3) := by decide +kernel
theorem dX10_canTake_72 : decode cX10_canTake 72 = .ok (.iconst 0, 1) := by decide +kernel
theorem dX10_canTake_73 : decode cX10_canTake 73 = .ok (.ireturn, 1) := by decide +kernel
theorem dX10_tell_0 : decode cX10_tell 0 = .ok (.aload_n 0, 1) := by decide +kernel
theorem dX10_tell_1 : decode cX10_tell 1 = .ok (.iload_n 2, 1) := by decide +kernel
set_option maxRecDepth 20000 in
theorem ggX10_tell_X10_placeFor : GoodIn wsX10_tell wsX10_placeFor := goodIn_r _ [9, 10, 3, 2, 11, 12, 13, 14] rfl (by decide +kernel)
set_option maxRecDepth 20000 in
theorem gX10_tell_X10_placeFor : GoodIn wsX10_tell (wsV RX10 31 RX10 yX10_placeFor wsX10_placeFor) := goodIn_app (goodIn_r _ [5, 6, 7, 8] rfl (by decide +kernel)) ggX10_tell_X10_placeFor
theorem dX10_tell_2 : decode cX10_tell 2 = .ok (.invokevirtual 31, 3) := by decide +kernel
theorem dX10_tell_5 : decode cX10_tell 5 = .ok (.istore_n 3, 1) := by decide +kernel
theorem dX10_tell_6 : decode cX10_tell 6 = .ok (.iload_n 3, 1) := by decide +kernel
theorem dX10_tell_7 : decode cX10_tell 7 = .ok (.iconst (-1), 1) := by decide +kernel
theorem dX10_tell_8 : decode cX10_tell 8 = .ok (.if_icmp .eq 14, 3) := by decide +kernel
theorem dX10_tell_11 : decode cX10_tell 11 = .ok (.iload_n 1, 1) := by decide +kernel
theorem dX10_tell_12 : decode cX10_tell 12 = .ok (.ifCond .lt 10, 3) := by decide +kernel
theorem dX10_tell_15 : decode cX10_tell 15 = .ok (.iload_n 1, 1) := by decide +kernel
theorem dX10_tell_16 : decode cX10_tell 16 = .ok (.sipush 256, 3) := by decide +kernel
theorem dX10_tell_19 : decode cX10_tell 19 = .ok (.if_icmp .lt 4, 3) := by decide +kernel
theorem dX10_tell_23 : decode cX10_tell 23 = .ok (.aload_n 0, 1) := by decide +kernel
theorem dX10_tell_24 : decode cX10_tell 24 = .ok (.getfield 9, 3) := by decide +kernel
theorem dX10_tell_27 : decode cX10_tell 27 = .ok (.iload_n 1, 1) := by decide +kernel
theorem dX10_tell_28 : decode cX10_tell 28 = .ok (.iload_n 2, 1) := by decide +kernel
theorem dX10_tell_29 : decode cX10_tell 29 = .ok (.iastore, 1) := by decide +kernel
theorem dX10_tell_30 : decode cX10_tell 30 = .ok (.aload_n 0, 1) := by decide +kernel
theorem dX10_tell_31 : decode cX10_tell 31 = .ok (.getfield 15, 3) := by decide +kernel
theorem dX10_tell_34 : decode cX10_tell 34 = .ok (.iload_n 3, 1) := by decide +kernel
theorem dX10_tell_35 : decode cX10_tell 35 = .ok (.iload_n 2, 1) := by decide +kernel
theorem dX10_tell_36 : decode cX10_tell 36 = .ok (.iastore, 1) := by decide +kernel
theorem dX10_tell_37 : decode cX10_tell 37 = .ok (.aload_n 0, 1) := by decide +kernel
theorem dX10_tell_38 : decode cX10_tell 38 = .ok (.getfield 18, 3) := by decide +kernel
theorem dX10_tell_41 : decode cX10_tell 41 = .ok (.iload_n 3, 1) := by decide +kernel
theorem dX10_tell_42 : decode cX10_tell 42 = .ok (.iload_n 1, 1) := by decide +kernel
theorem dX10_tell_43 : decode cX10_tell 43 = .ok (.iastore, 1) := by decide +kernel
theorem dX10_tell_44 : decode cX10_tell 44 = .ok (.aload_n 0, 1) := by decide +kernel
theorem dX10_tell_45 : decode cX10_tell 45 = .ok (.dup, 1) := by decide +kernel
theorem dX10_tell_46 : decode cX10_tell 46 = .ok (.getfield 27, 3) := by decide +kernel
theorem dX10_tell_49 : decode cX10_tell 49 = .ok (.iconst 1, 1) := by decide +kernel
theorem dX10_tell_50 : decode cX10_tell 50 = .ok (.iadd, 1) := by decide +kernel
theorem dX10_tell_51 : decode cX10_tell 51 = .ok (.putfield 27, 3) := by decide +kernel
theorem dX10_tell_54 : decode cX10_tell 54 = .ok (.return_, 1) := by decide +kernel
theorem dX11_span_20 : decode cX11_span 20 = .ok (.aload 6, 2) := by decide +kernel
theorem dX11_span_22 : decode cX11_span 22 = .ok (.iload_n 2, 1) := by decide +kernel
theorem dX11_span_23 : decode cX11_span 23 = .ok (.iload_n 3, 1) := by decide +kernel
theorem dX11_span_24 : decode cX11_span 24 = .ok (.iload 4, 2) := by decide +kernel
theorem dX11_span_26 : decode cX11_span 26 = .ok (.iload 5, 2) := by decide +kernel
set_option maxRecDepth 20000 in
theorem ggX11_span_X10_canTake : GoodIn wsX11_span wsX10_canTake := goodIn_r _ [15, 16, 17, 18, 19, 20, 21, 22, 23, 24, 14, 25, 26, 27, 28, 29, 30, 31, 32, 33, 34, 35, 36, 37, 67, 68, 69, 70] rfl (by decide +kernel)
set_option maxRecDepth 20000 in
theorem gX11_span_X10_canTake : GoodIn wsX11_span (wsV RX11 133 RX10 yX10_canTake wsX10_canTake) := goodIn_app (goodIn_r _ [11, 12, 13, 14] rfl (by decide +kernel)) ggX11_span_X10_canTake
theorem dX11_span_28 : decode cX11_span 28 = .ok (.invokevirtual 133, 3) := by decide +kernel
theorem dX11_span_31 : decode cX11_span 31 = .ok (.ifCond .ne 5, 3) := by decide +kernel
theorem dX11_span_36 : decode cX11_span 36 = .ok (.iconst 0, 1) := by decide +kernel
theorem dX11_span_37 : decode cX11_span 37 = .ok (.istore 7, 2) := by decide +kernel
theorem dX11_span_39 : decode cX11_span 39 = .ok (.iload 7, 2) := by decide +kernel
theorem dX11_span_41 : decode cX11_span 41 = .ok (.iload_n 3, 1) := by decide +kernel
theorem dX11_span_42 : decode cX11_span 42 = .ok (.if_icmp .ge 26, 3) := by decide +kernel
theorem dX11_span_68 : decode cX11_span 68 = .ok (.aload_n 0, 1) := by decide +kernel
theorem dX11_span_69 : decode cX11_span 69 = .ok (.getfield 86, 3) := by decide +kernel
set_option maxRecDepth 20000 in
theorem ggX11_span_X1_forgetFreshness : GoodIn wsX11_span wsX1_forgetFreshness := goodIn_r _ [47, 48, 71, 72, 73, 74, 75, 76, 77, 78, 79, 80, 81, 82, 83, 84, 85, 86, 87, 88, 89, 90] rfl (by decide +kernel)
set_option maxRecDepth 20000 in
theorem gX11_span_X1_forgetFreshness : GoodIn wsX11_span (wsV RX11 143 RX1 yX1_forgetFreshness wsX1_forgetFreshness) := goodIn_app (goodIn_r _ [43, 44, 45, 46] rfl (by decide +kernel)) ggX11_span_X1_forgetFreshness
theorem dX11_span_72 : decode cX11_span 72 = .ok (.invokevirtual 143, 3) := by decide +kernel
theorem dX11_span_75 : decode cX11_span 75 = .ok (.aload 6, 2) := by decide +kernel
set_option maxRecDepth 20000 in
theorem ggX11_span_X10_length : GoodIn wsX11_span wsX10_length := goodIn_r _ [52, 42, 67, 68, 69, 70] rfl (by decide +kernel)
set_option maxRecDepth 20000 in
theorem gX11_span_X10_length : GoodIn wsX11_span (wsV RX11 146 RX10 yX10_length wsX10_length) := goodIn_app (goodIn_r _ [49, 50, 51, 14] rfl (by decide +kernel)) ggX11_span_X10_length
theorem dX11_span_77 : decode cX11_span 77 = .ok (.invokevirtual 146, 3) := by decide +kernel
theorem dX11_span_80 : decode cX11_span 80 = .ok (.ireturn, 1) := by decide +kernel
theorem dX11_span_45 : decode cX11_span 45 = .ok (.aload 6, 2) := by decide +kernel
theorem dX11_span_47 : decode cX11_span 47 = .ok (.iload_n 2, 1) := by decide +kernel
theorem dX11_span_48 : decode cX11_span 48 = .ok (.iload 7, 2) := by decide +kernel
theorem dX11_span_50 : decode cX11_span 50 = .ok (.iadd, 1) := by decide +kernel
theorem dX11_span_51 : decode cX11_span 51 = .ok (.iload 4, 2) := by decide +kernel
theorem dX11_span_53 : decode cX11_span 53 = .ok (.iload 7, 2) := by decide +kernel
theorem dX11_span_55 : decode cX11_span 55 = .ok (.iload 5, 2) := by decide +kernel
theorem dX11_span_57 : decode cX11_span 57 = .ok (.imul, 1) := by decide +kernel
theorem dX11_span_58 : decode cX11_span 58 = .ok (.iadd, 1) := by decide +kernel
set_option maxRecDepth 20000 in
theorem ggX11_span_X10_tell : GoodIn wsX11_span wsX10_tell := goodIn_r _ [41, 26, 37, 31, 42, 32, 33, 34, 14, 35, 36, 67, 68, 69, 70] rfl (by decide +kernel)
set_option maxRecDepth 20000 in
theorem gX11_span_X10_tell : GoodIn wsX11_span (wsV RX11 139 RX10 yX10_tell wsX10_tell) := goodIn_app (goodIn_r _ [38, 39, 40, 14] rfl (by decide +kernel)) ggX11_span_X10_tell
theorem dX11_span_59 : decode cX11_span 59 = .ok (.invokevirtual 139, 3) := by decide +kernel
theorem dX11_span_62 : decode cX11_span 62 = .ok (.iinc 7 1, 3) := by decide +kernel
theorem dX11_span_65 : decode cX11_span 65 = .ok (.goto (-26), 3) := by decide +kernel
theorem dX11_blank_15 : decode cX11_blank 15 = .ok (.aload_n 2, 1) := by decide +kernel
set_option maxRecDepth 20000 in
theorem ggX11_blank_X10_empty : GoodIn wsX11_blank wsX10_empty := goodIn_r _ [14, 15, 16, 17, 18, 19, 20, 21, 42, 43, 44, 45] rfl (by decide +kernel)
set_option maxRecDepth 20000 in
theorem gX11_blank_X10_empty : GoodIn wsX11_blank (wsV RX11 147 RX10 yX10_empty wsX10_empty) := goodIn_app (goodIn_r _ [10, 11, 12, 13] rfl (by decide +kernel)) ggX11_blank_X10_empty
theorem dX11_blank_16 : decode cX11_blank 16 = .ok (.invokevirtual 147, 3) := by decide +kernel
theorem dX11_blank_19 : decode cX11_blank 19 = .ok (.aload_n 0, 1) := by decide +kernel
theorem dX11_blank_20 : decode cX11_blank 20 = .ok (.getfield 86, 3) := by decide +kernel
set_option maxRecDepth 20000 in
theorem ggX11_blank_X1_forgetFreshness : GoodIn wsX11_blank wsX1_forgetFreshness := goodIn_r _ [26, 27, 46, 47, 48, 49, 50, 51, 52, 53, 54, 55, 56, 57, 58, 59, 60, 61, 62, 63, 64, 65] rfl (by decide +kernel)
set_option maxRecDepth 20000 in
theorem gX11_blank_X1_forgetFreshness : GoodIn wsX11_blank (wsV RX11 143 RX1 yX1_forgetFreshness wsX1_forgetFreshness) := goodIn_app (goodIn_r _ [22, 23, 24, 25] rfl (by decide +kernel)) ggX11_blank_X1_forgetFreshness
theorem dX11_blank_23 : decode cX11_blank 23 = .ok (.invokevirtual 143, 3) := by decide +kernel
theorem dX11_blank_26 : decode cX11_blank 26 = .ok (.iconst 1, 1) := by decide +kernel
theorem dX11_blank_27 : decode cX11_blank 27 = .ok (.ireturn, 1) := by decide +kernel
