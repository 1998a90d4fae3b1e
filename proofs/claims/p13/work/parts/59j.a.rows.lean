theorem dX12_become_0 : decode cX12_become 0 = .ok (.aload_n 0, 1) := by decide +kernel
theorem dX12_become_1 : decode cX12_become 1 = .ok (.getfield 142, 3) := by decide +kernel
theorem dX12_become_4 : decode cX12_become 4 = .ok (.bipush 20, 2) := by decide +kernel
theorem dX12_become_6 : decode cX12_become 6 = .ok (.if_icmp .ne 19, 3) := by decide +kernel
theorem dX12_become_25 : decode cX12_become 25 = .ok (.aload_n 0, 1) := by decide +kernel
theorem dX12_become_26 : decode cX12_become 26 = .ok (.dup, 1) := by decide +kernel
theorem dX12_become_27 : decode cX12_become 27 = .ok (.getfield 142, 3) := by decide +kernel
theorem dX12_become_30 : decode cX12_become 30 = .ok (.iconst 1, 1) := by decide +kernel
theorem dX12_become_31 : decode cX12_become 31 = .ok (.iadd, 1) := by decide +kernel
theorem dX12_become_32 : decode cX12_become 32 = .ok (.putfield 142, 3) := by decide +kernel
theorem dX12_become_35 : decode cX12_become 35 = .ok (.iconst 1, 1) := by decide +kernel
theorem dX12_become_36 : decode cX12_become 36 = .ok (.aload_n 0, 1) := by decide +kernel
theorem dX12_become_37 : decode cX12_become 37 = .ok (.getfield 145, 3) := by decide +kernel
theorem dX12_become_40 : decode cX12_become 40 = .ok (.aload_n 0, 1) := by decide +kernel
theorem dX12_become_41 : decode cX12_become 41 = .ok (.getfield 142, 3) := by decide +kernel
theorem dX12_become_44 : decode cX12_become 44 = .ok (.iadd, 1) := by decide +kernel
theorem dX12_become_45 : decode cX12_become 45 = .ok (.iconst 1, 1) := by decide +kernel
theorem dX12_become_46 : decode cX12_become 46 = .ok (.isub, 1) := by decide +kernel
theorem dX12_become_47 : decode cX12_become 47 = .ok (.bipush 20, 2) := by decide +kernel
theorem dX12_become_49 : decode cX12_become 49 = .ok (.irem, 1) := by decide +kernel
theorem dX12_become_50 : decode cX12_become 50 = .ok (.iadd, 1) := by decide +kernel
theorem dX12_become_51 : decode cX12_become 51 = .ok (.istore_n 3, 1) := by decide +kernel
theorem dX12_become_52 : decode cX12_become 52 = .ok (.aload_n 0, 1) := by decide +kernel
theorem dX12_become_53 : decode cX12_become 53 = .ok (.getfield 13, 3) := by decide +kernel
theorem dX12_become_56 : decode cX12_become 56 = .ok (.iload_n 3, 1) := by decide +kernel
theorem dX12_become_57 : decode cX12_become 57 = .ok (.aload_n 0, 1) := by decide +kernel
theorem dX12_become_58 : decode cX12_become 58 = .ok (.getfield 13, 3) := by decide +kernel
theorem dX12_become_61 : decode cX12_become 61 = .ok (.iconst 0, 1) := by decide +kernel
theorem dX12_become_62 : decode cX12_become 62 = .ok (.iaload, 1) := by decide +kernel
theorem dX12_become_63 : decode cX12_become 63 = .ok (.iastore, 1) := by decide +kernel
theorem dX12_become_64 : decode cX12_become 64 = .ok (.iconst 0, 1) := by decide +kernel
theorem dX12_become_65 : decode cX12_become 65 = .ok (.istore 4, 2) := by decide +kernel
theorem dX12_become_67 : decode cX12_become 67 = .ok (.iload 4, 2) := by decide +kernel
theorem dX12_become_69 : decode cX12_become 69 = .ok (.aload_n 0, 1) := by decide +kernel
theorem dX12_become_70 : decode cX12_become 70 = .ok (.getfield 13, 3) := by decide +kernel
theorem dX12_become_73 : decode cX12_become 73 = .ok (.iconst 0, 1) := by decide +kernel
theorem dX12_become_74 : decode cX12_become 74 = .ok (.iaload, 1) := by decide +kernel
theorem dX12_become_75 : decode cX12_become 75 = .ok (.if_icmp .ge 29, 3) := by decide +kernel
theorem dX12_become_104 : decode cX12_become 104 = .ok (.aload_n 0, 1) := by decide +kernel
theorem dX12_become_105 : decode cX12_become 105 = .ok (.getfield 13, 3) := by decide +kernel
theorem dX12_become_108 : decode cX12_become 108 = .ok (.iconst 0, 1) := by decide +kernel
theorem dX12_become_109 : decode cX12_become 109 = .ok (.iload_n 2, 1) := by decide +kernel
theorem dX12_become_110 : decode cX12_become 110 = .ok (.iastore, 1) := by decide +kernel
theorem dX12_become_111 : decode cX12_become 111 = .ok (.iconst 0, 1) := by decide +kernel
theorem dX12_become_112 : decode cX12_become 112 = .ok (.istore 4, 2) := by decide +kernel
theorem dX12_become_114 : decode cX12_become 114 = .ok (.iload 4, 2) := by decide +kernel
theorem dX12_become_116 : decode cX12_become 116 = .ok (.iload_n 2, 1) := by decide +kernel
theorem dX12_become_117 : decode cX12_become 117 = .ok (.if_icmp .ge 20, 3) := by decide +kernel
theorem dX12_become_137 : decode cX12_become 137 = .ok (.aload_n 0, 1) := by decide +kernel
theorem dX12_become_138 : decode cX12_become 138 = .ok (.dup, 1) := by decide +kernel
theorem dX12_become_139 : decode cX12_become 139 = .ok (.getfield 148, 3) := by decide +kernel
theorem dX12_become_142 : decode cX12_become 142 = .ok (.iconst 1, 1) := by decide +kernel
theorem dX12_become_143 : decode cX12_become 143 = .ok (.iadd, 1) := by decide +kernel
theorem dX12_become_144 : decode cX12_become 144 = .ok (.putfield 148, 3) := by decide +kernel
theorem dX12_become_147 : decode cX12_become 147 = .ok (.return_, 1) := by decide +kernel
theorem dX12_become_120 : decode cX12_become 120 = .ok (.aload_n 0, 1) := by decide +kernel
theorem dX12_become_121 : decode cX12_become 121 = .ok (.getfield 16, 3) := by decide +kernel
theorem dX12_become_124 : decode cX12_become 124 = .ok (.iload 4, 2) := by decide +kernel
theorem dX12_become_126 : decode cX12_become 126 = .ok (.aload_n 1, 1) := by decide +kernel
theorem dX12_become_127 : decode cX12_become 127 = .ok (.iload 4, 2) := by decide +kernel
theorem dX12_become_129 : decode cX12_become 129 = .ok (.iaload, 1) := by decide +kernel
theorem dX12_become_130 : decode cX12_become 130 = .ok (.iastore, 1) := by decide +kernel
theorem dX12_become_131 : decode cX12_become 131 = .ok (.iinc 4 1, 3) := by decide +kernel
theorem dX12_become_134 : decode cX12_become 134 = .ok (.goto (-20), 3) := by decide +kernel
theorem dX12_become_78 : decode cX12_become 78 = .ok (.aload_n 0, 1) := by decide +kernel
theorem dX12_become_79 : decode cX12_become 79 = .ok (.getfield 16, 3) := by decide +kernel
theorem dX12_become_82 : decode cX12_become 82 = .ok (.sipush 300, 3) := by decide +kernel
theorem dX12_become_85 : decode cX12_become 85 = .ok (.iload_n 3, 1) := by decide +kernel
theorem dX12_become_86 : decode cX12_become 86 = .ok (.imul, 1) := by decide +kernel
theorem dX12_become_87 : decode cX12_become 87 = .ok (.iload 4, 2) := by decide +kernel
theorem dX12_become_89 : decode cX12_become 89 = .ok (.iadd, 1) := by decide +kernel
theorem dX12_become_90 : decode cX12_become 90 = .ok (.aload_n 0, 1) := by decide +kernel
theorem dX12_become_91 : decode cX12_become 91 = .ok (.getfield 16, 3) := by decide +kernel
theorem dX12_become_94 : decode cX12_become 94 = .ok (.iload 4, 2) := by decide +kernel
theorem dX12_become_96 : decode cX12_become 96 = .ok (.iaload, 1) := by decide +kernel
theorem dX12_become_97 : decode cX12_become 97 = .ok (.iastore, 1) := by decide +kernel
theorem dX12_become_98 : decode cX12_become 98 = .ok (.iinc 4 1, 3) := by decide +kernel
theorem dX12_become_101 : decode cX12_become 101 = .ok (.goto (-34), 3) := by decide +kernel
theorem dX12_become_9 : decode cX12_become 9 = .ok (.aload_n 0, 1) := by decide +kernel
theorem dX12_become_10 : decode cX12_become 10 = .ok (.aload_n 0, 1) := by decide +kernel
theorem dX12_become_11 : decode cX12_become 11 = .ok (.getfield 145, 3) := by decide +kernel
theorem dX12_become_14 : decode cX12_become 14 = .ok (.iconst 1, 1) := by decide +kernel
theorem dX12_become_15 : decode cX12_become 15 = .ok (.iadd, 1) := by decide +kernel
theorem dX12_become_16 : decode cX12_become 16 = .ok (.bipush 20, 2) := by decide +kernel
theorem dX12_become_18 : decode cX12_become 18 = .ok (.irem, 1) := by decide +kernel
theorem dX12_become_19 : decode cX12_become 19 = .ok (.putfield 145, 3) := by decide +kernel
theorem dX12_become_22 : decode cX12_become 22 = .ok (.goto 13, 3) := by decide +kernel
theorem dX12_back_0 : decode cX12_back 0 = .ok (.aload_n 0, 1) := by decide +kernel
theorem dX12_back_1 : decode cX12_back 1 = .ok (.iconst 0, 1) := by decide +kernel
theorem dX12_back_2 : decode cX12_back 2 = .ok (.putfield 85, 3) := by decide +kernel
theorem dX12_back_5 : decode cX12_back 5 = .ok (.aload_n 0, 1) := by decide +kernel
theorem dX12_back_6 : decode cX12_back 6 = .ok (.getfield 142, 3) := by decide +kernel
theorem dX12_back_9 : decode cX12_back 9 = .ok (.ifCond .ne 5, 3) := by decide +kernel
theorem dX12_back_14 : decode cX12_back 14 = .ok (.aload_n 0, 1) := by decide +kernel
theorem dX12_back_15 : decode cX12_back 15 = .ok (.dup, 1) := by decide +kernel
theorem dX12_back_16 : decode cX12_back 16 = .ok (.getfield 142, 3) := by decide +kernel
theorem dX12_back_19 : decode cX12_back 19 = .ok (.iconst 1, 1) := by decide +kernel
theorem dX12_back_20 : decode cX12_back 20 = .ok (.isub, 1) := by decide +kernel
theorem dX12_back_21 : decode cX12_back 21 = .ok (.putfield 142, 3) := by decide +kernel
theorem dX12_back_24 : decode cX12_back 24 = .ok (.iconst 1, 1) := by decide +kernel
theorem dX12_back_25 : decode cX12_back 25 = .ok (.aload_n 0, 1) := by decide +kernel
theorem dX12_back_26 : decode cX12_back 26 = .ok (.getfield 145, 3) := by decide +kernel
theorem dX12_back_29 : decode cX12_back 29 = .ok (.aload_n 0, 1) := by decide +kernel
theorem dX12_back_30 : decode cX12_back 30 = .ok (.getfield 142, 3) := by decide +kernel
theorem dX12_back_33 : decode cX12_back 33 = .ok (.iadd, 1) := by decide +kernel
theorem dX12_back_34 : decode cX12_back 34 = .ok (.bipush 20, 2) := by decide +kernel
theorem dX12_back_36 : decode cX12_back 36 = .ok (.irem, 1) := by decide +kernel
theorem dX12_back_37 : decode cX12_back 37 = .ok (.iadd, 1) := by decide +kernel
theorem dX12_back_38 : decode cX12_back 38 = .ok (.istore_n 1, 1) := by decide +kernel
theorem dX12_back_39 : decode cX12_back 39 = .ok (.aload_n 0, 1) := by decide +kernel
theorem dX12_back_40 : decode cX12_back 40 = .ok (.getfield 13, 3) := by decide +kernel
theorem dX12_back_43 : decode cX12_back 43 = .ok (.iconst 0, 1) := by decide +kernel
theorem dX12_back_44 : decode cX12_back 44 = .ok (.aload_n 0, 1) := by decide +kernel
theorem dX12_back_45 : decode cX12_back 45 = .ok (.getfield 13, 3) := by decide +kernel
theorem dX12_back_48 : decode cX12_back 48 = .ok (.iload_n 1, 1) := by decide +kernel
theorem dX12_back_49 : decode cX12_back 49 = .ok (.iaload, 1) := by decide +kernel
theorem dX12_back_50 : decode cX12_back 50 = .ok (.iastore, 1) := by decide +kernel
theorem dX12_back_51 : decode cX12_back 51 = .ok (.iconst 0, 1) := by decide +kernel
theorem dX12_back_52 : decode cX12_back 52 = .ok (.istore_n 2, 1) := by decide +kernel
theorem dX12_back_53 : decode cX12_back 53 = .ok (.iload_n 2, 1) := by decide +kernel
theorem dX12_back_54 : decode cX12_back 54 = .ok (.aload_n 0, 1) := by decide +kernel
theorem dX12_back_55 : decode cX12_back 55 = .ok (.getfield 13, 3) := by decide +kernel
theorem dX12_back_58 : decode cX12_back 58 = .ok (.iconst 0, 1) := by decide +kernel
theorem dX12_back_59 : decode cX12_back 59 = .ok (.iaload, 1) := by decide +kernel
theorem dX12_back_60 : decode cX12_back 60 = .ok (.if_icmp .ge 27, 3) := by decide +kernel
theorem dX12_back_87 : decode cX12_back 87 = .ok (.aload_n 0, 1) := by decide +kernel
theorem dX12_back_88 : decode cX12_back 88 = .ok (.dup, 1) := by decide +kernel
theorem dX12_back_89 : decode cX12_back 89 = .ok (.getfield 148, 3) := by decide +kernel
theorem dX12_back_92 : decode cX12_back 92 = .ok (.iconst 1, 1) := by decide +kernel
theorem dX12_back_93 : decode cX12_back 93 = .ok (.iadd, 1) := by decide +kernel
theorem dX12_back_94 : decode cX12_back 94 = .ok (.putfield 148, 3) := by decide +kernel
theorem dX12_back_97 : decode cX12_back 97 = .ok (.aload_n 0, 1) := by decide +kernel
theorem dX12_back_98 : decode cX12_back 98 = .ok (.getfield 142, 3) := by decide +kernel
theorem dX12_back_101 : decode cX12_back 101 = .ok (.ireturn, 1) := by decide +kernel
theorem dX12_back_63 : decode cX12_back 63 = .ok (.aload_n 0, 1) := by decide +kernel
theorem dX12_back_64 : decode cX12_back 64 = .ok (.getfield 16, 3) := by decide +kernel
theorem dX12_back_67 : decode cX12_back 67 = .ok (.iload_n 2, 1) := by decide +kernel
theorem dX12_back_68 : decode cX12_back 68 = .ok (.aload_n 0, 1) := by decide +kernel
theorem dX12_back_69 : decode cX12_back 69 = .ok (.getfield 16, 3) := by decide +kernel
theorem dX12_back_72 : decode cX12_back 72 = .ok (.sipush 300, 3) := by decide +kernel
theorem dX12_back_75 : decode cX12_back 75 = .ok (.iload_n 1, 1) := by decide +kernel
theorem dX12_back_76 : decode cX12_back 76 = .ok (.imul, 1) := by decide +kernel
theorem dX12_back_77 : decode cX12_back 77 = .ok (.iload_n 2, 1) := by decide +kernel
theorem dX12_back_78 : decode cX12_back 78 = .ok (.iadd, 1) := by decide +kernel
theorem dX12_back_79 : decode cX12_back 79 = .ok (.iaload, 1) := by decide +kernel
theorem dX12_back_80 : decode cX12_back 80 = .ok (.iastore, 1) := by decide +kernel
theorem dX12_back_81 : decode cX12_back 81 = .ok (.iinc 2 1, 3) := by decide +kernel
theorem dX12_back_84 : decode cX12_back 84 = .ok (.goto (-31), 3) := by decide +kernel
theorem dX12_back_12 : decode cX12_back 12 = .ok (.iconst (-1), 1) := by decide +kernel
theorem dX12_back_13 : decode cX12_back 13 = .ok (.ireturn, 1) := by decide +kernel
theorem dX11_back_0 : decode cX11_back 0 = .ok (.aload_n 0, 1) := by decide +kernel
theorem dX11_back_1 : decode cX11_back 1 = .ok (.getfield 59, 3) := by decide +kernel
theorem dX11_back_4 : decode cX11_back 4 = .ok (.aload_n 0, 1) := by decide +kernel
theorem dX11_back_5 : decode cX11_back 5 = .ok (.getfield 34, 3) := by decide +kernel
set_option maxRecDepth 20000 in
theorem ggX11_back_X0_takeBack : GoodIn wsX11_back wsX0_takeBack := goodIn_r _ [8, 9, 10, 11, 12, 13, 14, 15, 16, 17, 18, 19, 20, 21, 22, 23, 46, 47, 48, 49, 50, 51] rfl (by decide +kernel)
set_option maxRecDepth 20000 in
theorem gX11_back_X0_takeBack : GoodIn wsX11_back (wsV RX11 188 RX0 yX0_takeBack wsX0_takeBack) := goodIn_app (goodIn_r _ [4, 5, 6, 7] rfl (by decide +kernel)) ggX11_back_X0_takeBack
theorem dX11_back_8 : decode cX11_back 8 = .ok (.invokevirtual 188, 3) := by decide +kernel
theorem dX11_back_11 : decode cX11_back 11 = .ok (.ifCond .ne 5, 3) := by decide +kernel
theorem dX11_back_16 : decode cX11_back 16 = .ok (.aload_n 0, 1) := by decide +kernel
theorem dX11_back_17 : decode cX11_back 17 = .ok (.getfield 86, 3) := by decide +kernel
set_option maxRecDepth 20000 in
theorem ggX11_back_X1_forgetFreshness : GoodIn wsX11_back wsX1_forgetFreshness := goodIn_r _ [28, 29, 52, 53, 54, 55, 56, 57, 58, 59, 60, 61, 62, 63, 64, 65, 66, 67, 68, 69, 70, 71] rfl (by decide +kernel)
set_option maxRecDepth 20000 in
theorem gX11_back_X1_forgetFreshness : GoodIn wsX11_back (wsV RX11 143 RX1 yX1_forgetFreshness wsX1_forgetFreshness) := goodIn_app (goodIn_r _ [24, 25, 26, 27] rfl (by decide +kernel)) ggX11_back_X1_forgetFreshness
theorem dX11_back_20 : decode cX11_back 20 = .ok (.invokevirtual 143, 3) := by decide +kernel
theorem dX11_back_23 : decode cX11_back 23 = .ok (.aload_n 0, 1) := by decide +kernel
theorem dX11_back_24 : decode cX11_back 24 = .ok (.getfield 59, 3) := by decide +kernel
set_option maxRecDepth 20000 in
theorem ggX11_back_X0_length : GoodIn wsX11_back wsX0_length := goodIn_r _ [33, 9, 46, 47, 48, 49] rfl (by decide +kernel)
set_option maxRecDepth 20000 in
theorem gX11_back_X0_length : GoodIn wsX11_back (wsV RX11 151 RX0 yX0_length wsX0_length) := goodIn_app (goodIn_r _ [30, 31, 32, 7] rfl (by decide +kernel)) ggX11_back_X0_length
theorem dX11_back_27 : decode cX11_back 27 = .ok (.invokevirtual 151, 3) := by decide +kernel
theorem dX11_back_30 : decode cX11_back 30 = .ok (.ireturn, 1) := by decide +kernel
theorem dX11_back_14 : decode cX11_back 14 = .ok (.iconst (-1), 1) := by decide +kernel
theorem dX11_back_15 : decode cX11_back 15 = .ok (.ireturn, 1) := by decide +kernel
