theorem dX0_remember_0 : decode cX0_remember 0 = .ok (.aload_n 1, 1) := by decide +kernel
set_option maxRecDepth 20000 in
theorem ggX0_remember_X5_length : GoodIn wsX0_remember wsX5_length := goodIn_r _ [13, 14, 24, 25] rfl (by decide +kernel)
set_option maxRecDepth 20000 in
theorem gX0_remember_X5_length : GoodIn wsX0_remember (wsV RX0 25 RX5 yX5_length wsX5_length) := goodIn_app (goodIn_r _ [9, 10, 11, 12] rfl (by decide +kernel)) ggX0_remember_X5_length
theorem dX0_remember_1 : decode cX0_remember 1 = .ok (.invokevirtual 25, 3) := by decide +kernel
theorem dX0_remember_4 : decode cX0_remember 4 = .ok (.sipush 300, 3) := by decide +kernel
theorem dX0_remember_7 : decode cX0_remember 7 = .ok (.invokestatic 30, 3) := by decide +kernel
theorem dX0_remember_10 : decode cX0_remember 10 = .ok (.istore_n 2, 1) := by decide +kernel
theorem dX0_remember_11 : decode cX0_remember 11 = .ok (.iconst 0, 1) := by decide +kernel
theorem dX0_remember_12 : decode cX0_remember 12 = .ok (.istore_n 3, 1) := by decide +kernel
theorem dX0_remember_13 : decode cX0_remember 13 = .ok (.iload_n 3, 1) := by decide +kernel
theorem dX0_remember_14 : decode cX0_remember 14 = .ok (.iload_n 2, 1) := by decide +kernel
theorem dX0_remember_15 : decode cX0_remember 15 = .ok (.if_icmp .ge 29, 3) := by decide +kernel
theorem dX0_remember_44 : decode cX0_remember 44 = .ok (.aload_n 0, 1) := by decide +kernel
theorem dX0_remember_45 : decode cX0_remember 45 = .ok (.getfield 15, 3) := by decide +kernel
theorem dX0_remember_48 : decode cX0_remember 48 = .ok (.aload_n 0, 1) := by decide +kernel
theorem dX0_remember_49 : decode cX0_remember 49 = .ok (.getfield 18, 3) := by decide +kernel
theorem dX0_remember_52 : decode cX0_remember 52 = .ok (.iload_n 2, 1) := by decide +kernel
theorem dX0_remember_53 : decode cX0_remember 53 = .ok (.iastore, 1) := by decide +kernel
theorem dX0_remember_54 : decode cX0_remember 54 = .ok (.aload_n 0, 1) := by decide +kernel
theorem dX0_remember_55 : decode cX0_remember 55 = .ok (.aload_n 0, 1) := by decide +kernel
theorem dX0_remember_56 : decode cX0_remember 56 = .ok (.getfield 18, 3) := by decide +kernel
theorem dX0_remember_59 : decode cX0_remember 59 = .ok (.bipush 19, 2) := by decide +kernel
theorem dX0_remember_61 : decode cX0_remember 61 = .ok (.if_icmp .ne 7, 3) := by decide +kernel
theorem dX0_remember_68 : decode cX0_remember 68 = .ok (.aload_n 0, 1) := by decide +kernel
theorem dX0_remember_69 : decode cX0_remember 69 = .ok (.getfield 18, 3) := by decide +kernel
theorem dX0_remember_72 : decode cX0_remember 72 = .ok (.iconst 1, 1) := by decide +kernel
theorem dX0_remember_73 : decode cX0_remember 73 = .ok (.iadd, 1) := by decide +kernel
theorem dX0_remember_74 : decode cX0_remember 74 = .ok (.putfield 18, 3) := by decide +kernel
theorem dX0_remember_77 : decode cX0_remember 77 = .ok (.aload_n 0, 1) := by decide +kernel
theorem dX0_remember_78 : decode cX0_remember 78 = .ok (.aload_n 0, 1) := by decide +kernel
theorem dX0_remember_79 : decode cX0_remember 79 = .ok (.getfield 22, 3) := by decide +kernel
theorem dX0_remember_82 : decode cX0_remember 82 = .ok (.iconst 1, 1) := by decide +kernel
theorem dX0_remember_83 : decode cX0_remember 83 = .ok (.iadd, 1) := by decide +kernel
theorem dX0_remember_84 : decode cX0_remember 84 = .ok (.bipush 20, 2) := by decide +kernel
theorem dX0_remember_86 : decode cX0_remember 86 = .ok (.invokestatic 30, 3) := by decide +kernel
theorem dX0_remember_89 : decode cX0_remember 89 = .ok (.putfield 22, 3) := by decide +kernel
theorem dX0_remember_92 : decode cX0_remember 92 = .ok (.return_, 1) := by decide +kernel
theorem dX0_remember_64 : decode cX0_remember 64 = .ok (.iconst 0, 1) := by decide +kernel
theorem dX0_remember_65 : decode cX0_remember 65 = .ok (.goto 9, 3) := by decide +kernel
theorem dX0_remember_18 : decode cX0_remember 18 = .ok (.aload_n 0, 1) := by decide +kernel
theorem dX0_remember_19 : decode cX0_remember 19 = .ok (.getfield 11, 3) := by decide +kernel
theorem dX0_remember_22 : decode cX0_remember 22 = .ok (.aload_n 0, 1) := by decide +kernel
theorem dX0_remember_23 : decode cX0_remember 23 = .ok (.getfield 18, 3) := by decide +kernel
theorem dX0_remember_26 : decode cX0_remember 26 = .ok (.sipush 300, 3) := by decide +kernel
theorem dX0_remember_29 : decode cX0_remember 29 = .ok (.imul, 1) := by decide +kernel
theorem dX0_remember_30 : decode cX0_remember 30 = .ok (.iload_n 3, 1) := by decide +kernel
theorem dX0_remember_31 : decode cX0_remember 31 = .ok (.iadd, 1) := by decide +kernel
theorem dX0_remember_32 : decode cX0_remember 32 = .ok (.aload_n 1, 1) := by decide +kernel
theorem dX0_remember_33 : decode cX0_remember 33 = .ok (.iload_n 3, 1) := by decide +kernel
set_option maxRecDepth 20000 in
theorem ggX0_remember_X5_get : GoodIn wsX0_remember wsX5_get := goodIn_r _ [18, 14, 19, 24, 25] rfl (by decide +kernel)
set_option maxRecDepth 20000 in
theorem gX0_remember_X5_get : GoodIn wsX0_remember (wsV RX0 36 RX5 yX5_get wsX5_get) := goodIn_app (goodIn_r _ [15, 16, 17, 12] rfl (by decide +kernel)) ggX0_remember_X5_get
theorem dX0_remember_34 : decode cX0_remember 34 = .ok (.invokevirtual 36, 3) := by decide +kernel
theorem dX0_remember_37 : decode cX0_remember 37 = .ok (.iastore, 1) := by decide +kernel
theorem dX0_remember_38 : decode cX0_remember 38 = .ok (.iinc 3 1, 3) := by decide +kernel
theorem dX0_remember_41 : decode cX0_remember 41 = .ok (.goto (-28), 3) := by decide +kernel
theorem dX11_become_0 : decode cX11_become 0 = .ok (.aload_n 0, 1) := by decide +kernel
theorem dX11_become_1 : decode cX11_become 1 = .ok (.getfield 59, 3) := by decide +kernel
theorem dX11_become_4 : decode cX11_become 4 = .ok (.aload_n 0, 1) := by decide +kernel
theorem dX11_become_5 : decode cX11_become 5 = .ok (.getfield 34, 3) := by decide +kernel
set_option maxRecDepth 20000 in
theorem ggX11_become_X0_remember : GoodIn wsX11_become wsX0_remember := goodIn_r _ [8, 9, 10, 11, 12, 13, 14, 15, 16, 17, 18, 19, 20, 21, 22, 23, 24, 25, 26, 27, 59, 60, 61, 62, 63, 64] rfl (by decide +kernel)
set_option maxRecDepth 20000 in
theorem gX11_become_X0_remember : GoodIn wsX11_become (wsV RX11 257 RX0 yX0_remember wsX0_remember) := goodIn_app (goodIn_r _ [4, 5, 6, 7] rfl (by decide +kernel)) ggX11_become_X0_remember
theorem dX11_become_8 : decode cX11_become 8 = .ok (.invokevirtual 257, 3) := by decide +kernel
theorem dX11_become_11 : decode cX11_become 11 = .ok (.aload_n 0, 1) := by decide +kernel
theorem dX11_become_12 : decode cX11_become 12 = .ok (.getfield 34, 3) := by decide +kernel
theorem dX11_become_15 : decode cX11_become 15 = .ok (.aload_n 1, 1) := by decide +kernel
set_option maxRecDepth 20000 in
theorem ggX11_become_X5_takeAll : GoodIn wsX11_become wsX5_takeAll := goodIn_r _ [31, 22, 32, 33, 34, 20, 35, 27, 36, 37, 38, 39, 63, 64] rfl (by decide +kernel)
set_option maxRecDepth 20000 in
theorem gX11_become_X5_takeAll : GoodIn wsX11_become (wsV RX11 109 RX5 yX5_takeAll wsX5_takeAll) := goodIn_app (goodIn_r _ [28, 29, 30, 20] rfl (by decide +kernel)) ggX11_become_X5_takeAll
theorem dX11_become_16 : decode cX11_become 16 = .ok (.invokevirtual 109, 3) := by decide +kernel
theorem dX11_become_19 : decode cX11_become 19 = .ok (.pop, 1) := by decide +kernel
theorem dX11_become_20 : decode cX11_become 20 = .ok (.aload_n 0, 1) := by decide +kernel
theorem dX11_become_21 : decode cX11_become 21 = .ok (.getfield 86, 3) := by decide +kernel
set_option maxRecDepth 20000 in
theorem ggX11_become_X1_forgetFreshness : GoodIn wsX11_become wsX1_forgetFreshness := goodIn_r _ [44, 45, 65, 66, 67, 68, 69, 70, 71, 72, 73, 74, 75, 76, 77, 78, 79, 80, 81, 82, 83, 84] rfl (by decide +kernel)
set_option maxRecDepth 20000 in
theorem gX11_become_X1_forgetFreshness : GoodIn wsX11_become (wsV RX11 143 RX1 yX1_forgetFreshness wsX1_forgetFreshness) := goodIn_app (goodIn_r _ [40, 41, 42, 43] rfl (by decide +kernel)) ggX11_become_X1_forgetFreshness
theorem dX11_become_24 : decode cX11_become 24 = .ok (.invokevirtual 143, 3) := by decide +kernel
theorem dX11_become_27 : decode cX11_become 27 = .ok (.aload_n 0, 1) := by decide +kernel
theorem dX11_become_28 : decode cX11_become 28 = .ok (.getfield 34, 3) := by decide +kernel
set_option maxRecDepth 20000 in
theorem ggX11_become_X5_length : GoodIn wsX11_become wsX5_length := goodIn_r _ [21, 22, 63, 64] rfl (by decide +kernel)
set_option maxRecDepth 20000 in
theorem gX11_become_X5_length : GoodIn wsX11_become (wsV RX11 94 RX5 yX5_length wsX5_length) := goodIn_app (goodIn_r _ [46, 18, 19, 20] rfl (by decide +kernel)) ggX11_become_X5_length
theorem dX11_become_31 : decode cX11_become 31 = .ok (.invokevirtual 94, 3) := by decide +kernel
theorem dX11_become_34 : decode cX11_become 34 = .ok (.ireturn, 1) := by decide +kernel
theorem dX0_takeBack_0 : decode cX0_takeBack 0 = .ok (.aload_n 0, 1) := by decide +kernel
theorem dX0_takeBack_1 : decode cX0_takeBack 1 = .ok (.getfield 22, 3) := by decide +kernel
theorem dX0_takeBack_4 : decode cX0_takeBack 4 = .ok (.ifCond .ne 5, 3) := by decide +kernel
theorem dX0_takeBack_9 : decode cX0_takeBack 9 = .ok (.aload_n 0, 1) := by decide +kernel
theorem dX0_takeBack_10 : decode cX0_takeBack 10 = .ok (.aload_n 0, 1) := by decide +kernel
theorem dX0_takeBack_11 : decode cX0_takeBack 11 = .ok (.getfield 18, 3) := by decide +kernel
theorem dX0_takeBack_14 : decode cX0_takeBack 14 = .ok (.ifCond .ne 8, 3) := by decide +kernel
theorem dX0_takeBack_22 : decode cX0_takeBack 22 = .ok (.aload_n 0, 1) := by decide +kernel
theorem dX0_takeBack_23 : decode cX0_takeBack 23 = .ok (.getfield 18, 3) := by decide +kernel
theorem dX0_takeBack_26 : decode cX0_takeBack 26 = .ok (.iconst 1, 1) := by decide +kernel
theorem dX0_takeBack_27 : decode cX0_takeBack 27 = .ok (.isub, 1) := by decide +kernel
theorem dX0_takeBack_28 : decode cX0_takeBack 28 = .ok (.putfield 18, 3) := by decide +kernel
theorem dX0_takeBack_31 : decode cX0_takeBack 31 = .ok (.aload_n 0, 1) := by decide +kernel
theorem dX0_takeBack_32 : decode cX0_takeBack 32 = .ok (.dup, 1) := by decide +kernel
theorem dX0_takeBack_33 : decode cX0_takeBack 33 = .ok (.getfield 22, 3) := by decide +kernel
theorem dX0_takeBack_36 : decode cX0_takeBack 36 = .ok (.iconst 1, 1) := by decide +kernel
theorem dX0_takeBack_37 : decode cX0_takeBack 37 = .ok (.isub, 1) := by decide +kernel
theorem dX0_takeBack_38 : decode cX0_takeBack 38 = .ok (.putfield 22, 3) := by decide +kernel
theorem dX0_takeBack_41 : decode cX0_takeBack 41 = .ok (.aload_n 1, 1) := by decide +kernel
theorem dX0_takeBack_42 : decode cX0_takeBack 42 = .ok (.iconst 0, 1) := by decide +kernel
set_option maxRecDepth 20000 in
theorem ggX0_takeBack_X5_cut : GoodIn wsX0_takeBack wsX5_cut := goodIn_r _ [9, 10, 20, 21] rfl (by decide +kernel)
set_option maxRecDepth 20000 in
theorem gX0_takeBack_X5_cut : GoodIn wsX0_takeBack (wsV RX0 40 RX5 yX5_cut wsX5_cut) := goodIn_app (goodIn_r _ [5, 6, 7, 8] rfl (by decide +kernel)) ggX0_takeBack_X5_cut
theorem dX0_takeBack_43 : decode cX0_takeBack 43 = .ok (.invokevirtual 40, 3) := by decide +kernel
theorem dX0_takeBack_46 : decode cX0_takeBack 46 = .ok (.iconst 0, 1) := by decide +kernel
theorem dX0_takeBack_47 : decode cX0_takeBack 47 = .ok (.istore_n 2, 1) := by decide +kernel
theorem dX0_takeBack_48 : decode cX0_takeBack 48 = .ok (.iload_n 2, 1) := by decide +kernel
theorem dX0_takeBack_49 : decode cX0_takeBack 49 = .ok (.aload_n 0, 1) := by decide +kernel
theorem dX0_takeBack_50 : decode cX0_takeBack 50 = .ok (.getfield 15, 3) := by decide +kernel
theorem dX0_takeBack_53 : decode cX0_takeBack 53 = .ok (.aload_n 0, 1) := by decide +kernel
theorem dX0_takeBack_54 : decode cX0_takeBack 54 = .ok (.getfield 18, 3) := by decide +kernel
theorem dX0_takeBack_57 : decode cX0_takeBack 57 = .ok (.iaload, 1) := by decide +kernel
theorem dX0_takeBack_58 : decode cX0_takeBack 58 = .ok (.if_icmp .ge 29, 3) := by decide +kernel
theorem dX0_takeBack_87 : decode cX0_takeBack 87 = .ok (.iconst 1, 1) := by decide +kernel
theorem dX0_takeBack_88 : decode cX0_takeBack 88 = .ok (.ireturn, 1) := by decide +kernel
theorem dX0_takeBack_61 : decode cX0_takeBack 61 = .ok (.aload_n 1, 1) := by decide +kernel
theorem dX0_takeBack_62 : decode cX0_takeBack 62 = .ok (.aload_n 0, 1) := by decide +kernel
theorem dX0_takeBack_63 : decode cX0_takeBack 63 = .ok (.getfield 11, 3) := by decide +kernel
theorem dX0_takeBack_66 : decode cX0_takeBack 66 = .ok (.aload_n 0, 1) := by decide +kernel
theorem dX0_takeBack_67 : decode cX0_takeBack 67 = .ok (.getfield 18, 3) := by decide +kernel
theorem dX0_takeBack_70 : decode cX0_takeBack 70 = .ok (.sipush 300, 3) := by decide +kernel
theorem dX0_takeBack_73 : decode cX0_takeBack 73 = .ok (.imul, 1) := by decide +kernel
theorem dX0_takeBack_74 : decode cX0_takeBack 74 = .ok (.iload_n 2, 1) := by decide +kernel
theorem dX0_takeBack_75 : decode cX0_takeBack 75 = .ok (.iadd, 1) := by decide +kernel
theorem dX0_takeBack_76 : decode cX0_takeBack 76 = .ok (.iaload, 1) := by decide +kernel
set_option maxRecDepth 20000 in
theorem ggX0_takeBack_X5_add : GoodIn wsX0_takeBack wsX5_add := goodIn_r _ [14, 10, 15, 20, 21] rfl (by decide +kernel)
set_option maxRecDepth 20000 in
theorem gX0_takeBack_X5_add : GoodIn wsX0_takeBack (wsV RX0 44 RX5 yX5_add wsX5_add) := goodIn_app (goodIn_r _ [11, 12, 13, 8] rfl (by decide +kernel)) ggX0_takeBack_X5_add
theorem dX0_takeBack_77 : decode cX0_takeBack 77 = .ok (.invokevirtual 44, 3) := by decide +kernel
theorem dX0_takeBack_80 : decode cX0_takeBack 80 = .ok (.pop, 1) := by decide +kernel
theorem dX0_takeBack_81 : decode cX0_takeBack 81 = .ok (.iinc 2 1, 3) := by decide +kernel
theorem dX0_takeBack_84 : decode cX0_takeBack 84 = .ok (.goto (-36), 3) := by decide +kernel
theorem dX0_takeBack_17 : decode cX0_takeBack 17 = .ok (.bipush 19, 2) := by decide +kernel
theorem dX0_takeBack_19 : decode cX0_takeBack 19 = .ok (.goto 9, 3) := by decide +kernel
theorem dX0_takeBack_7 : decode cX0_takeBack 7 = .ok (.iconst 0, 1) := by decide +kernel
theorem dX0_takeBack_8 : decode cX0_takeBack 8 = .ok (.ireturn, 1) := by decide +kernel
