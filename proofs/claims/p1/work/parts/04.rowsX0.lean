theorem dX0_init_0 : decode cX0_init 0 = .ok (.aload_n 0, 1) := by decide +kernel
theorem dX0_init_1 : decode cX0_init 1 = .ok (.invokespecial 3, 3) := by decide +kernel
theorem dX0_init_4 : decode cX0_init 4 = .ok (.aload_n 0, 1) := by decide +kernel
theorem dX0_init_5 : decode cX0_init 5 = .ok (.sipush 6000, 3) := by decide +kernel
theorem dX0_init_8 : decode cX0_init 8 = .ok (.newarray .int, 2) := by decide +kernel
theorem dX0_init_10 : decode cX0_init 10 = .ok (.putfield 11, 3) := by decide +kernel
theorem dX0_init_13 : decode cX0_init 13 = .ok (.aload_n 0, 1) := by decide +kernel
theorem dX0_init_14 : decode cX0_init 14 = .ok (.bipush 20, 2) := by decide +kernel
theorem dX0_init_16 : decode cX0_init 16 = .ok (.newarray .int, 2) := by decide +kernel
theorem dX0_init_18 : decode cX0_init 18 = .ok (.putfield 15, 3) := by decide +kernel
theorem dX0_init_21 : decode cX0_init 21 = .ok (.aload_n 0, 1) := by decide +kernel
theorem dX0_init_22 : decode cX0_init 22 = .ok (.iconst 0, 1) := by decide +kernel
theorem dX0_init_23 : decode cX0_init 23 = .ok (.putfield 18, 3) := by decide +kernel
theorem dX0_init_26 : decode cX0_init 26 = .ok (.aload_n 0, 1) := by decide +kernel
theorem dX0_init_27 : decode cX0_init 27 = .ok (.iconst 0, 1) := by decide +kernel
theorem dX0_init_28 : decode cX0_init 28 = .ok (.putfield 22, 3) := by decide +kernel
theorem dX0_init_31 : decode cX0_init 31 = .ok (.return_, 1) := by decide +kernel
theorem dX0_length_0 : decode cX0_length 0 = .ok (.aload_n 0, 1) := by decide +kernel
theorem dX0_length_1 : decode cX0_length 1 = .ok (.getfield 22, 3) := by decide +kernel
theorem dX0_length_4 : decode cX0_length 4 = .ok (.ireturn, 1) := by decide +kernel
set_option maxRecDepth 20000 in
theorem ggX0_remember_X5_length : GoodIn wsX0_remember wsX5_length := goodIn_r _ [13, 14, 24, 25] (by decide +kernel) (by decide +kernel)
set_option maxRecDepth 20000 in
theorem gX0_remember_X5_length : GoodIn wsX0_remember (wsV RX0 25 RX5 yX5_length wsX5_length) := goodIn_app (goodIn_of _ (by decide +kernel)) ggX0_remember_X5_length
set_option maxRecDepth 20000 in
theorem ggX0_remember_X5_get : GoodIn wsX0_remember wsX5_get := goodIn_r _ [18, 14, 19, 24, 25] (by decide +kernel) (by decide +kernel)
set_option maxRecDepth 20000 in
theorem gX0_remember_X5_get : GoodIn wsX0_remember (wsV RX0 36 RX5 yX5_get wsX5_get) := goodIn_app (goodIn_of _ (by decide +kernel)) ggX0_remember_X5_get
theorem dX0_remember_0 : decode cX0_remember 0 = .ok (.aload_n 1, 1) := by decide +kernel
theorem dX0_remember_1 : decode cX0_remember 1 = .ok (.invokevirtual 25, 3) := by decide +kernel
theorem dX0_remember_4 : decode cX0_remember 4 = .ok (.sipush 300, 3) := by decide +kernel
theorem dX0_remember_7 : decode cX0_remember 7 = .ok (.invokestatic 30, 3) := by decide +kernel
theorem dX0_remember_10 : decode cX0_remember 10 = .ok (.istore_n 2, 1) := by decide +kernel
theorem dX0_remember_11 : decode cX0_remember 11 = .ok (.iconst 0, 1) := by decide +kernel
theorem dX0_remember_12 : decode cX0_remember 12 = .ok (.istore_n 3, 1) := by decide +kernel
theorem dX0_remember_13 : decode cX0_remember 13 = .ok (.iload_n 3, 1) := by decide +kernel
theorem dX0_remember_14 : decode cX0_remember 14 = .ok (.iload_n 2, 1) := by decide +kernel
theorem dX0_remember_15 : decode cX0_remember 15 = .ok (.if_icmp .ge 29, 3) := by decide +kernel
theorem dX0_remember_18 : decode cX0_remember 18 = .ok (.aload_n 0, 1) := by decide +kernel
theorem dX0_remember_19 : decode cX0_remember 19 = .ok (.getfield 11, 3) := by decide +kernel
theorem dX0_remember_22 : decode cX0_remember 22 = .ok (.aload_n 0, 1) := by decide +kernel
theorem dX0_remember_23 : decode cX0_remember 23 = .ok (.getfield 18, 3) := by decide +kernel
theorem dX0_remember_26 : decode cX0_remember 26 = .ok (.sipush 300, 3) := by decide +kernel
theorem dX0_remember_29 : decode cX0_remember 29 = .ok (.imul, 1) := by decide +kernel
theorem dX0_remember_30 : decode cX0_remember 30 = .ok (.iload_n 3, 1) := by decide +kernel
theorem dX0_remember_31 : decode cX0_remember 31 = .ok (.iadd, 1) := by decide +kernel
theorem dX0_remember_32 : decode cX0_remember 32 = .ok (.aload_n 1, 1) := by decide +kernel
theorem dX0_remember_33 : decode cX0_remember 33 = .ok (.iload_n 3, 1) := by decide +kernel
theorem dX0_remember_34 : decode cX0_remember 34 = .ok (.invokevirtual 36, 3) := by decide +kernel
theorem dX0_remember_37 : decode cX0_remember 37 = .ok (.iastore, 1) := by decide +kernel
theorem dX0_remember_38 : decode cX0_remember 38 = .ok (.iinc 3 1, 3) := by decide +kernel
theorem dX0_remember_41 : decode cX0_remember 41 = .ok (.goto (-28), 3) := by decide +kernel
theorem dX0_remember_44 : decode cX0_remember 44 = .ok (.aload_n 0, 1) := by decide +kernel
theorem dX0_remember_45 : decode cX0_remember 45 = .ok (.getfield 15, 3) := by decide +kernel
theorem dX0_remember_48 : decode cX0_remember 48 = .ok (.aload_n 0, 1) := by decide +kernel
theorem dX0_remember_49 : decode cX0_remember 49 = .ok (.getfield 18, 3) := by decide +kernel
theorem dX0_remember_52 : decode cX0_remember 52 = .ok (.iload_n 2, 1) := by decide +kernel
theorem dX0_remember_53 : decode cX0_remember 53 = .ok (.iastore, 1) := by decide +kernel
theorem dX0_remember_54 : decode cX0_remember 54 = .ok (.aload_n 0, 1) := by decide +kernel
theorem dX0_remember_55 : decode cX0_remember 55 = .ok (.aload_n 0, 1) := by decide +kernel
theorem dX0_remember_56 : decode cX0_remember 56 = .ok (.getfield 18, 3) := by decide +kernel
theorem dX0_remember_59 : decode cX0_remember 59 = .ok (.bipush 19, 2) := by decide +kernel
theorem dX0_remember_61 : decode cX0_remember 61 = .ok (.if_icmp .ne 7, 3) := by decide +kernel
theorem dX0_remember_64 : decode cX0_remember 64 = .ok (.iconst 0, 1) := by decide +kernel
theorem dX0_remember_65 : decode cX0_remember 65 = .ok (.goto 9, 3) := by decide +kernel
theorem dX0_remember_68 : decode cX0_remember 68 = .ok (.aload_n 0, 1) := by decide +kernel
theorem dX0_remember_69 : decode cX0_remember 69 = .ok (.getfield 18, 3) := by decide +kernel
theorem dX0_remember_72 : decode cX0_remember 72 = .ok (.iconst 1, 1) := by decide +kernel
theorem dX0_remember_73 : decode cX0_remember 73 = .ok (.iadd, 1) := by decide +kernel
theorem dX0_remember_74 : decode cX0_remember 74 = .ok (.putfield 18, 3) := by decide +kernel
theorem dX0_remember_77 : decode cX0_remember 77 = .ok (.aload_n 0, 1) := by decide +kernel
theorem dX0_remember_78 : decode cX0_remember 78 = .ok (.aload_n 0, 1) := by decide +kernel
theorem dX0_remember_79 : decode cX0_remember 79 = .ok (.getfield 22, 3) := by decide +kernel
theorem dX0_remember_82 : decode cX0_remember 82 = .ok (.iconst 1, 1) := by decide +kernel
theorem dX0_remember_83 : decode cX0_remember 83 = .ok (.iadd, 1) := by decide +kernel
theorem dX0_remember_84 : decode cX0_remember 84 = .ok (.bipush 20, 2) := by decide +kernel
theorem dX0_remember_86 : decode cX0_remember 86 = .ok (.invokestatic 30, 3) := by decide +kernel
theorem dX0_remember_89 : decode cX0_remember 89 = .ok (.putfield 22, 3) := by decide +kernel
theorem dX0_remember_92 : decode cX0_remember 92 = .ok (.return_, 1) := by decide +kernel
set_option maxRecDepth 20000 in
theorem ggX0_takeBack_X5_cut : GoodIn wsX0_takeBack wsX5_cut := goodIn_r _ [9, 10, 20, 21] (by decide +kernel) (by decide +kernel)
set_option maxRecDepth 20000 in
theorem gX0_takeBack_X5_cut : GoodIn wsX0_takeBack (wsV RX0 40 RX5 yX5_cut wsX5_cut) := goodIn_app (goodIn_of _ (by decide +kernel)) ggX0_takeBack_X5_cut
set_option maxRecDepth 20000 in
theorem ggX0_takeBack_X5_add : GoodIn wsX0_takeBack wsX5_add := goodIn_r _ [14, 10, 15, 20, 21] (by decide +kernel) (by decide +kernel)
set_option maxRecDepth 20000 in
theorem gX0_takeBack_X5_add : GoodIn wsX0_takeBack (wsV RX0 44 RX5 yX5_add wsX5_add) := goodIn_app (goodIn_of _ (by decide +kernel)) ggX0_takeBack_X5_add
theorem dX0_takeBack_0 : decode cX0_takeBack 0 = .ok (.aload_n 0, 1) := by decide +kernel
theorem dX0_takeBack_1 : decode cX0_takeBack 1 = .ok (.getfield 22, 3) := by decide +kernel
theorem dX0_takeBack_4 : decode cX0_takeBack 4 = .ok (.ifCond .ne 5, 3) := by decide +kernel
theorem dX0_takeBack_7 : decode cX0_takeBack 7 = .ok (.iconst 0, 1) := by decide +kernel
theorem dX0_takeBack_8 : decode cX0_takeBack 8 = .ok (.ireturn, 1) := by decide +kernel
theorem dX0_takeBack_9 : decode cX0_takeBack 9 = .ok (.aload_n 0, 1) := by decide +kernel
theorem dX0_takeBack_10 : decode cX0_takeBack 10 = .ok (.aload_n 0, 1) := by decide +kernel
theorem dX0_takeBack_11 : decode cX0_takeBack 11 = .ok (.getfield 18, 3) := by decide +kernel
theorem dX0_takeBack_14 : decode cX0_takeBack 14 = .ok (.ifCond .ne 8, 3) := by decide +kernel
theorem dX0_takeBack_17 : decode cX0_takeBack 17 = .ok (.bipush 19, 2) := by decide +kernel
theorem dX0_takeBack_19 : decode cX0_takeBack 19 = .ok (.goto 9, 3) := by decide +kernel
theorem dX0_takeBack_22 : decode cX0_takeBack 22 = .ok (.aload_n 0, 1) := by decide +kernel
theorem dX0_takeBack_23 : decode cX0_takeBack 23 = .ok (.getfield 18, 3) := by decide +kernel
theorem dX0_takeBack_26 : decode cX0_takeBack 26 = .ok (.iconst 1, 1) := by decide +kernel
theorem dX0_takeBack_27 : decode cX0_takeBack 27 = .ok (.isub, 1) := by decide +kernel
theorem dX0_takeBack_28 : decode cX0_takeBack 28 = .ok (.putfield 18, 3) := by decide +kernel
theorem dX0_takeBack_31 : decode cX0_takeBack 31 = .ok (.aload_n 0, 1) := by decide +kernel
theorem dX0_takeBack_32 : decode cX0_takeBack 32 = .ok (.dup, 1) := by decide +kernel
theorem dX0_takeBack_33 : decode cX0_takeBack 33 = .ok (.getfield 22, 3) := by decide +kernel
theorem dX0_takeBack_36 : decode cX0_takeBack 36 = .ok (.iconst 1, 1) := by decide +kernel
theorem dX0_takeBack_37 : decode cX0_takeBack 37 = .ok (.isub, 1) := by decide +kernel
theorem dX0_takeBack_38 : decode cX0_takeBack 38 = .ok (.putfield 22, 3) := by decide +kernel
theorem dX0_takeBack_41 : decode cX0_takeBack 41 = .ok (.aload_n 1, 1) := by decide +kernel
theorem dX0_takeBack_42 : decode cX0_takeBack 42 = .ok (.iconst 0, 1) := by decide +kernel
theorem dX0_takeBack_43 : decode cX0_takeBack 43 = .ok (.invokevirtual 40, 3) := by decide +kernel
theorem dX0_takeBack_46 : decode cX0_takeBack 46 = .ok (.iconst 0, 1) := by decide +kernel
theorem dX0_takeBack_47 : decode cX0_takeBack 47 = .ok (.istore_n 2, 1) := by decide +kernel
theorem dX0_takeBack_48 : decode cX0_takeBack 48 = .ok (.iload_n 2, 1) := by decide +kernel
theorem dX0_takeBack_49 : decode cX0_takeBack 49 = .ok (.aload_n 0, 1) := by decide +kernel
theorem dX0_takeBack_50 : decode cX0_takeBack 50 = .ok (.getfield 15, 3) := by decide +kernel
theorem dX0_takeBack_53 : decode cX0_takeBack 53 = .ok (.aload_n 0, 1) := by decide +kernel
theorem dX0_takeBack_54 : decode cX0_takeBack 54 = .ok (.getfield 18, 3) := by decide +kernel
theorem dX0_takeBack_57 : decode cX0_takeBack 57 = .ok (.iaload, 1) := by decide +kernel
theorem dX0_takeBack_58 : decode cX0_takeBack 58 = .ok (.if_icmp .ge 29, 3) := by decide +kernel
theorem dX0_takeBack_61 : decode cX0_takeBack 61 = .ok (.aload_n 1, 1) := by decide +kernel
theorem dX0_takeBack_62 : decode cX0_takeBack 62 = .ok (.aload_n 0, 1) := by decide +kernel
theorem dX0_takeBack_63 : decode cX0_takeBack 63 = .ok (.getfield 11, 3) := by decide +kernel
theorem dX0_takeBack_66 : decode cX0_takeBack 66 = .ok (.aload_n 0, 1) := by decide +kernel
theorem dX0_takeBack_67 : decode cX0_takeBack 67 = .ok (.getfield 18, 3) := by decide +kernel
theorem dX0_takeBack_70 : decode cX0_takeBack 70 = .ok (.sipush 300, 3) := by decide +kernel
theorem dX0_takeBack_73 : decode cX0_takeBack 73 = .ok (.imul, 1) := by decide +kernel
theorem dX0_takeBack_74 : decode cX0_takeBack 74 = .ok (.iload_n 2, 1) := by decide +kernel
theorem dX0_takeBack_75 : decode cX0_takeBack 75 = .ok (.iadd, 1) := by decide +kernel
theorem dX0_takeBack_76 : decode cX0_takeBack 76 = .ok (.iaload, 1) := by decide +kernel
theorem dX0_takeBack_77 : decode cX0_takeBack 77 = .ok (.invokevirtual 44, 3) := by decide +kernel
theorem dX0_takeBack_80 : decode cX0_takeBack 80 = .ok (.pop, 1) := by decide +kernel
theorem dX0_takeBack_81 : decode cX0_takeBack 81 = .ok (.iinc 2 1, 3) := by decide +kernel
theorem dX0_takeBack_84 : decode cX0_takeBack 84 = .ok (.goto (-36), 3) := by decide +kernel
theorem dX0_takeBack_87 : decode cX0_takeBack 87 = .ok (.iconst 1, 1) := by decide +kernel
theorem dX0_takeBack_88 : decode cX0_takeBack 88 = .ok (.ireturn, 1) := by decide +kernel
set_option maxRecDepth 20000 in
theorem ggX3_init_J7_fill_53178 : GoodIn wsX3_init wsJ7_fill_53178 := goodIn_r _ [11] (by decide +kernel) (by decide +kernel)
set_option maxRecDepth 20000 in
theorem gX3_init_J7_fill_53178 : GoodIn wsX3_init (va_wsS RX3 18 yJ7_fill_53178 wsJ7_fill_53178) := goodIn_app (goodIn_of _ (by decide +kernel)) ggX3_init_J7_fill_53178
theorem dX3_init_0 : decode cX3_init 0 = .ok (.aload_n 0, 1) := by decide +kernel
theorem dX3_init_1 : decode cX3_init 1 = .ok (.invokespecial 3, 3) := by decide +kernel
theorem dX3_init_4 : decode cX3_init 4 = .ok (.aload_n 0, 1) := by decide +kernel
theorem dX3_init_5 : decode cX3_init 5 = .ok (.sipush 1024, 3) := by decide +kernel
theorem dX3_init_8 : decode cX3_init 8 = .ok (.newarray .int, 2) := by decide +kernel
theorem dX3_init_10 : decode cX3_init 10 = .ok (.putfield 11, 3) := by decide +kernel
theorem dX3_init_13 : decode cX3_init 13 = .ok (.aload_n 0, 1) := by decide +kernel
theorem dX3_init_14 : decode cX3_init 14 = .ok (.sipush 1024, 3) := by decide +kernel
theorem dX3_init_17 : decode cX3_init 17 = .ok (.newarray .int, 2) := by decide +kernel
theorem dX3_init_19 : decode cX3_init 19 = .ok (.putfield 15, 3) := by decide +kernel
theorem dX3_init_22 : decode cX3_init 22 = .ok (.aload_n 0, 1) := by decide +kernel
theorem dX3_init_23 : decode cX3_init 23 = .ok (.getfield 15, 3) := by decide +kernel
theorem dX3_init_26 : decode cX3_init 26 = .ok (.iconst (-1), 1) := by decide +kernel
theorem dX3_init_27 : decode cX3_init 27 = .ok (.invokestatic 18, 3) := by decide +kernel
theorem dX3_init_30 : decode cX3_init 30 = .ok (.aload_n 0, 1) := by decide +kernel
theorem dX3_init_31 : decode cX3_init 31 = .ok (.iconst 0, 1) := by decide +kernel
theorem dX3_init_32 : decode cX3_init 32 = .ok (.putfield 24, 3) := by decide +kernel
theorem dX3_init_35 : decode cX3_init 35 = .ok (.return_, 1) := by decide +kernel
theorem dX3_length_0 : decode cX3_length 0 = .ok (.aload_n 0, 1) := by decide +kernel
theorem dX3_length_1 : decode cX3_length 1 = .ok (.getfield 24, 3) := by decide +kernel
theorem dX3_length_4 : decode cX3_length 4 = .ok (.ireturn, 1) := by decide +kernel
set_option maxRecDepth 20000 in
theorem ggX3_tell_X3_placeFor : GoodIn wsX3_tell wsX3_placeFor := goodIn_r _ [8, 9, 1, 3, 10, 11, 7, 12, 13, 14, 15] (by decide +kernel) (by decide +kernel)
set_option maxRecDepth 20000 in
theorem gX3_tell_X3_placeFor : GoodIn wsX3_tell (wsV RX3 28 RX3 yX3_placeFor wsX3_placeFor) := goodIn_app (goodIn_of _ (by decide +kernel)) ggX3_tell_X3_placeFor
set_option maxRecDepth 20000 in
theorem ggX3_tell_X3_pairOf : GoodIn wsX3_tell wsX3_pairOf := goodIn_r _ [12] (by decide +kernel) (by decide +kernel)
set_option maxRecDepth 20000 in
theorem gX3_tell_X3_pairOf : GoodIn wsX3_tell (va_wsS RX3 32 yX3_pairOf wsX3_pairOf) := goodIn_app (goodIn_of _ (by decide +kernel)) ggX3_tell_X3_pairOf
theorem dX3_tell_0 : decode cX3_tell 0 = .ok (.aload_n 0, 1) := by decide +kernel
theorem dX3_tell_1 : decode cX3_tell 1 = .ok (.iload_n 1, 1) := by decide +kernel
theorem dX3_tell_2 : decode cX3_tell 2 = .ok (.iload_n 2, 1) := by decide +kernel
theorem dX3_tell_3 : decode cX3_tell 3 = .ok (.invokevirtual 28, 3) := by decide +kernel
theorem dX3_tell_6 : decode cX3_tell 6 = .ok (.istore 4, 2) := by decide +kernel
theorem dX3_tell_8 : decode cX3_tell 8 = .ok (.iload 4, 2) := by decide +kernel
theorem dX3_tell_10 : decode cX3_tell 10 = .ok (.iconst (-1), 1) := by decide +kernel
theorem dX3_tell_11 : decode cX3_tell 11 = .ok (.if_icmp .eq 14, 3) := by decide +kernel
theorem dX3_tell_14 : decode cX3_tell 14 = .ok (.iload_n 3, 1) := by decide +kernel
theorem dX3_tell_15 : decode cX3_tell 15 = .ok (.ifCond .lt 10, 3) := by decide +kernel
theorem dX3_tell_18 : decode cX3_tell 18 = .ok (.iload_n 3, 1) := by decide +kernel
theorem dX3_tell_19 : decode cX3_tell 19 = .ok (.sipush 200, 3) := by decide +kernel
theorem dX3_tell_22 : decode cX3_tell 22 = .ok (.if_icmp .le 5, 3) := by decide +kernel
theorem dX3_tell_25 : decode cX3_tell 25 = .ok (.iconst 0, 1) := by decide +kernel
theorem dX3_tell_26 : decode cX3_tell 26 = .ok (.ireturn, 1) := by decide +kernel
theorem dX3_tell_27 : decode cX3_tell 27 = .ok (.aload_n 0, 1) := by decide +kernel
theorem dX3_tell_28 : decode cX3_tell 28 = .ok (.getfield 15, 3) := by decide +kernel
theorem dX3_tell_31 : decode cX3_tell 31 = .ok (.iload 4, 2) := by decide +kernel
theorem dX3_tell_33 : decode cX3_tell 33 = .ok (.iaload, 1) := by decide +kernel
theorem dX3_tell_34 : decode cX3_tell 34 = .ok (.iconst (-1), 1) := by decide +kernel
theorem dX3_tell_35 : decode cX3_tell 35 = .ok (.if_icmp .ne 37, 3) := by decide +kernel
theorem dX3_tell_38 : decode cX3_tell 38 = .ok (.aload_n 0, 1) := by decide +kernel
theorem dX3_tell_39 : decode cX3_tell 39 = .ok (.getfield 24, 3) := by decide +kernel
theorem dX3_tell_42 : decode cX3_tell 42 = .ok (.sipush 300, 3) := by decide +kernel
theorem dX3_tell_45 : decode cX3_tell 45 = .ok (.if_icmp .lt 5, 3) := by decide +kernel
theorem dX3_tell_48 : decode cX3_tell 48 = .ok (.iconst 0, 1) := by decide +kernel
theorem dX3_tell_49 : decode cX3_tell 49 = .ok (.ireturn, 1) := by decide +kernel
theorem dX3_tell_50 : decode cX3_tell 50 = .ok (.aload_n 0, 1) := by decide +kernel
theorem dX3_tell_51 : decode cX3_tell 51 = .ok (.getfield 11, 3) := by decide +kernel
theorem dX3_tell_54 : decode cX3_tell 54 = .ok (.iload 4, 2) := by decide +kernel
theorem dX3_tell_56 : decode cX3_tell 56 = .ok (.iload_n 1, 1) := by decide +kernel
theorem dX3_tell_57 : decode cX3_tell 57 = .ok (.iload_n 2, 1) := by decide +kernel
theorem dX3_tell_58 : decode cX3_tell 58 = .ok (.invokestatic 32, 3) := by decide +kernel
theorem dX3_tell_61 : decode cX3_tell 61 = .ok (.iastore, 1) := by decide +kernel
theorem dX3_tell_62 : decode cX3_tell 62 = .ok (.aload_n 0, 1) := by decide +kernel
theorem dX3_tell_63 : decode cX3_tell 63 = .ok (.dup, 1) := by decide +kernel
theorem dX3_tell_64 : decode cX3_tell 64 = .ok (.getfield 24, 3) := by decide +kernel
theorem dX3_tell_67 : decode cX3_tell 67 = .ok (.iconst 1, 1) := by decide +kernel
theorem dX3_tell_68 : decode cX3_tell 68 = .ok (.iadd, 1) := by decide +kernel
theorem dX3_tell_69 : decode cX3_tell 69 = .ok (.putfield 24, 3) := by decide +kernel
theorem dX3_tell_72 : decode cX3_tell 72 = .ok (.aload_n 0, 1) := by decide +kernel
theorem dX3_tell_73 : decode cX3_tell 73 = .ok (.getfield 15, 3) := by decide +kernel
theorem dX3_tell_76 : decode cX3_tell 76 = .ok (.iload 4, 2) := by decide +kernel
theorem dX3_tell_78 : decode cX3_tell 78 = .ok (.iload_n 3, 1) := by decide +kernel
theorem dX3_tell_79 : decode cX3_tell 79 = .ok (.iastore, 1) := by decide +kernel
theorem dX3_tell_80 : decode cX3_tell 80 = .ok (.iconst 1, 1) := by decide +kernel
theorem dX3_tell_81 : decode cX3_tell 81 = .ok (.ireturn, 1) := by decide +kernel
set_option maxRecDepth 20000 in
theorem ggX3_of_X3_placeFor : GoodIn wsX3_of wsX3_placeFor := goodIn_r _ [7, 8, 2, 9, 10, 11, 6, 12, 19, 20, 21] (by decide +kernel) (by decide +kernel)
set_option maxRecDepth 20000 in
theorem gX3_of_X3_placeFor : GoodIn wsX3_of (wsV RX3 28 RX3 yX3_placeFor wsX3_placeFor) := goodIn_app (goodIn_of _ (by decide +kernel)) ggX3_of_X3_placeFor
set_option maxRecDepth 20000 in
theorem ggX3_of_X3_sortOf : GoodIn wsX3_of wsX3_sortOf := goodIn_r _ [15, 16, 17, 6, 18] (by decide +kernel) (by decide +kernel)
set_option maxRecDepth 20000 in
theorem gX3_of_X3_sortOf : GoodIn wsX3_of (va_wsS RX3 35 yX3_sortOf wsX3_sortOf) := goodIn_app (goodIn_of _ (by decide +kernel)) ggX3_of_X3_sortOf
theorem dX3_of_0 : decode cX3_of 0 = .ok (.aload_n 0, 1) := by decide +kernel
theorem dX3_of_1 : decode cX3_of 1 = .ok (.getfield 24, 3) := by decide +kernel
theorem dX3_of_4 : decode cX3_of 4 = .ok (.ifCond .ne 7, 3) := by decide +kernel
theorem dX3_of_7 : decode cX3_of 7 = .ok (.iconst (-1), 1) := by decide +kernel
theorem dX3_of_8 : decode cX3_of 8 = .ok (.goto 9, 3) := by decide +kernel
theorem dX3_of_11 : decode cX3_of 11 = .ok (.aload_n 0, 1) := by decide +kernel
theorem dX3_of_12 : decode cX3_of 12 = .ok (.iload_n 1, 1) := by decide +kernel
theorem dX3_of_13 : decode cX3_of 13 = .ok (.iload_n 2, 1) := by decide +kernel
theorem dX3_of_14 : decode cX3_of 14 = .ok (.invokevirtual 28, 3) := by decide +kernel
theorem dX3_of_17 : decode cX3_of 17 = .ok (.istore_n 3, 1) := by decide +kernel
theorem dX3_of_18 : decode cX3_of 18 = .ok (.iload_n 3, 1) := by decide +kernel
theorem dX3_of_19 : decode cX3_of 19 = .ok (.iconst (-1), 1) := by decide +kernel
theorem dX3_of_20 : decode cX3_of 20 = .ok (.if_icmp .eq 20, 3) := by decide +kernel
theorem dX3_of_23 : decode cX3_of 23 = .ok (.aload_n 0, 1) := by decide +kernel
theorem dX3_of_24 : decode cX3_of 24 = .ok (.getfield 15, 3) := by decide +kernel
theorem dX3_of_27 : decode cX3_of 27 = .ok (.iload_n 3, 1) := by decide +kernel
theorem dX3_of_28 : decode cX3_of 28 = .ok (.iaload, 1) := by decide +kernel
theorem dX3_of_29 : decode cX3_of 29 = .ok (.iconst (-1), 1) := by decide +kernel
theorem dX3_of_30 : decode cX3_of 30 = .ok (.if_icmp .eq 10, 3) := by decide +kernel
theorem dX3_of_33 : decode cX3_of 33 = .ok (.aload_n 0, 1) := by decide +kernel
theorem dX3_of_34 : decode cX3_of 34 = .ok (.getfield 15, 3) := by decide +kernel
theorem dX3_of_37 : decode cX3_of 37 = .ok (.iload_n 3, 1) := by decide +kernel
theorem dX3_of_38 : decode cX3_of 38 = .ok (.iaload, 1) := by decide +kernel
theorem dX3_of_39 : decode cX3_of 39 = .ok (.ireturn, 1) := by decide +kernel
theorem dX3_of_40 : decode cX3_of 40 = .ok (.iload_n 1, 1) := by decide +kernel
theorem dX3_of_41 : decode cX3_of 41 = .ok (.invokestatic 35, 3) := by decide +kernel
theorem dX3_of_44 : decode cX3_of 44 = .ok (.istore 4, 2) := by decide +kernel
theorem dX3_of_46 : decode cX3_of 46 = .ok (.iload_n 2, 1) := by decide +kernel
theorem dX3_of_47 : decode cX3_of 47 = .ok (.invokestatic 35, 3) := by decide +kernel
theorem dX3_of_50 : decode cX3_of 50 = .ok (.istore 5, 2) := by decide +kernel
theorem dX3_of_52 : decode cX3_of 52 = .ok (.iload 4, 2) := by decide +kernel
theorem dX3_of_54 : decode cX3_of 54 = .ok (.iload 5, 2) := by decide +kernel
theorem dX3_of_56 : decode cX3_of 56 = .ok (.if_icmp .ne 7, 3) := by decide +kernel
theorem dX3_of_59 : decode cX3_of 59 = .ok (.iconst 4, 1) := by decide +kernel
theorem dX3_of_60 : decode cX3_of 60 = .ok (.goto 5, 3) := by decide +kernel
theorem dX3_of_63 : decode cX3_of 63 = .ok (.bipush 9, 2) := by decide +kernel
theorem dX3_of_65 : decode cX3_of 65 = .ok (.istore 6, 2) := by decide +kernel
theorem dX3_of_67 : decode cX3_of 67 = .ok (.iload 6, 2) := by decide +kernel
theorem dX3_of_69 : decode cX3_of 69 = .ok (.iload 4, 2) := by decide +kernel
theorem dX3_of_71 : decode cX3_of 71 = .ok (.ifCond .ne 8, 3) := by decide +kernel
theorem dX3_of_74 : decode cX3_of 74 = .ok (.bipush 30, 2) := by decide +kernel
theorem dX3_of_76 : decode cX3_of 76 = .ok (.goto 4, 3) := by decide +kernel
theorem dX3_of_79 : decode cX3_of 79 = .ok (.iconst 0, 1) := by decide +kernel
theorem dX3_of_80 : decode cX3_of 80 = .ok (.iadd, 1) := by decide +kernel
theorem dX3_of_81 : decode cX3_of 81 = .ok (.istore 6, 2) := by decide +kernel
theorem dX3_of_83 : decode cX3_of 83 = .ok (.iload 6, 2) := by decide +kernel
theorem dX3_of_85 : decode cX3_of 85 = .ok (.iload 5, 2) := by decide +kernel
theorem dX3_of_87 : decode cX3_of 87 = .ok (.ifCond .ne 8, 3) := by decide +kernel
theorem dX3_of_90 : decode cX3_of 90 = .ok (.bipush 30, 2) := by decide +kernel
theorem dX3_of_92 : decode cX3_of 92 = .ok (.goto 4, 3) := by decide +kernel
theorem dX3_of_95 : decode cX3_of 95 = .ok (.iconst 0, 1) := by decide +kernel
theorem dX3_of_96 : decode cX3_of 96 = .ok (.iadd, 1) := by decide +kernel
theorem dX3_of_97 : decode cX3_of 97 = .ok (.ireturn, 1) := by decide +kernel
set_option maxRecDepth 20000 in
theorem ggX3_ofText_X5_length : GoodIn wsX3_ofText wsX5_length := goodIn_r _ [5, 6, 34, 35] (by decide +kernel) (by decide +kernel)
set_option maxRecDepth 20000 in
theorem gX3_ofText_X5_length : GoodIn wsX3_ofText (wsV RX3 39 RX5 yX5_length wsX5_length) := goodIn_app (goodIn_of _ (by decide +kernel)) ggX3_ofText_X5_length
set_option maxRecDepth 20000 in
theorem ggX3_ofText_X5_get : GoodIn wsX3_ofText wsX5_get := goodIn_r _ [10, 6, 11, 34, 35] (by decide +kernel) (by decide +kernel)
set_option maxRecDepth 20000 in
theorem gX3_ofText_X5_get : GoodIn wsX3_ofText (wsV RX3 44 RX5 yX5_get wsX5_get) := goodIn_app (goodIn_of _ (by decide +kernel)) ggX3_ofText_X5_get
set_option maxRecDepth 20000 in
theorem ggX3_ofText_X3_of : GoodIn wsX3_ofText wsX3_of := goodIn_r _ [16, 17, 18, 19, 20, 21, 15, 22, 23, 24, 25, 26, 27, 28, 29, 30, 31, 32, 33, 36, 37, 38] (by decide +kernel) (by decide +kernel)
set_option maxRecDepth 20000 in
theorem gX3_ofText_X3_of : GoodIn wsX3_ofText (wsV RX3 47 RX3 yX3_of wsX3_of) := goodIn_app (goodIn_of _ (by decide +kernel)) ggX3_ofText_X3_of
theorem dX3_ofText_0 : decode cX3_ofText 0 = .ok (.iconst 0, 1) := by decide +kernel
theorem dX3_ofText_1 : decode cX3_ofText 1 = .ok (.istore_n 2, 1) := by decide +kernel
theorem dX3_ofText_2 : decode cX3_ofText 2 = .ok (.bipush 32, 2) := by decide +kernel
theorem dX3_ofText_4 : decode cX3_ofText 4 = .ok (.istore_n 3, 1) := by decide +kernel
theorem dX3_ofText_5 : decode cX3_ofText 5 = .ok (.iconst 0, 1) := by decide +kernel
theorem dX3_ofText_6 : decode cX3_ofText 6 = .ok (.istore 4, 2) := by decide +kernel
theorem dX3_ofText_8 : decode cX3_ofText 8 = .ok (.iload 4, 2) := by decide +kernel
theorem dX3_ofText_10 : decode cX3_ofText 10 = .ok (.aload_n 1, 1) := by decide +kernel
theorem dX3_ofText_11 : decode cX3_ofText 11 = .ok (.invokevirtual 39, 3) := by decide +kernel
theorem dX3_ofText_14 : decode cX3_ofText 14 = .ok (.if_icmp .ge 30, 3) := by decide +kernel
theorem dX3_ofText_17 : decode cX3_ofText 17 = .ok (.aload_n 1, 1) := by decide +kernel
theorem dX3_ofText_18 : decode cX3_ofText 18 = .ok (.iload 4, 2) := by decide +kernel
theorem dX3_ofText_20 : decode cX3_ofText 20 = .ok (.invokevirtual 44, 3) := by decide +kernel
theorem dX3_ofText_23 : decode cX3_ofText 23 = .ok (.istore 5, 2) := by decide +kernel
theorem dX3_ofText_25 : decode cX3_ofText 25 = .ok (.iload_n 2, 1) := by decide +kernel
theorem dX3_ofText_26 : decode cX3_ofText 26 = .ok (.aload_n 0, 1) := by decide +kernel
theorem dX3_ofText_27 : decode cX3_ofText 27 = .ok (.iload_n 3, 1) := by decide +kernel
theorem dX3_ofText_28 : decode cX3_ofText 28 = .ok (.iload 5, 2) := by decide +kernel
theorem dX3_ofText_30 : decode cX3_ofText 30 = .ok (.invokevirtual 47, 3) := by decide +kernel
theorem dX3_ofText_33 : decode cX3_ofText 33 = .ok (.iadd, 1) := by decide +kernel
theorem dX3_ofText_34 : decode cX3_ofText 34 = .ok (.istore_n 2, 1) := by decide +kernel
theorem dX3_ofText_35 : decode cX3_ofText 35 = .ok (.iload 5, 2) := by decide +kernel
theorem dX3_ofText_37 : decode cX3_ofText 37 = .ok (.istore_n 3, 1) := by decide +kernel
theorem dX3_ofText_38 : decode cX3_ofText 38 = .ok (.iinc 4 1, 3) := by decide +kernel
theorem dX3_ofText_41 : decode cX3_ofText 41 = .ok (.goto (-33), 3) := by decide +kernel
theorem dX3_ofText_44 : decode cX3_ofText 44 = .ok (.iload_n 2, 1) := by decide +kernel
theorem dX3_ofText_45 : decode cX3_ofText 45 = .ok (.aload_n 0, 1) := by decide +kernel
theorem dX3_ofText_46 : decode cX3_ofText 46 = .ok (.iload_n 3, 1) := by decide +kernel
theorem dX3_ofText_47 : decode cX3_ofText 47 = .ok (.bipush 32, 2) := by decide +kernel
theorem dX3_ofText_49 : decode cX3_ofText 49 = .ok (.invokevirtual 47, 3) := by decide +kernel
theorem dX3_ofText_52 : decode cX3_ofText 52 = .ok (.iadd, 1) := by decide +kernel
theorem dX3_ofText_53 : decode cX3_ofText 53 = .ok (.ireturn, 1) := by decide +kernel
theorem dX3_pairOf_0 : decode cX3_pairOf 0 = .ok (.iload_n 0, 1) := by decide +kernel
theorem dX3_pairOf_1 : decode cX3_pairOf 1 = .ok (.bipush 16, 2) := by decide +kernel
theorem dX3_pairOf_3 : decode cX3_pairOf 3 = .ok (.ishl, 1) := by decide +kernel
theorem dX3_pairOf_4 : decode cX3_pairOf 4 = .ok (.iload_n 1, 1) := by decide +kernel
theorem dX3_pairOf_5 : decode cX3_pairOf 5 = .ok (.ior, 1) := by decide +kernel
theorem dX3_pairOf_6 : decode cX3_pairOf 6 = .ok (.ireturn, 1) := by decide +kernel
set_option maxRecDepth 20000 in
theorem ggX3_sortOf_X3_sortOutside : GoodIn wsX3_sortOf wsX3_sortOutside := goodIn_r _ [4] (by decide +kernel) (by decide +kernel)
set_option maxRecDepth 20000 in
theorem gX3_sortOf_X3_sortOutside : GoodIn wsX3_sortOf (va_wsS RX3 50 yX3_sortOutside wsX3_sortOutside) := goodIn_app (goodIn_of _ (by decide +kernel)) ggX3_sortOf_X3_sortOutside
theorem dX3_sortOf_0 : decode cX3_sortOf 0 = .ok (.iload_n 0, 1) := by decide +kernel
theorem dX3_sortOf_1 : decode cX3_sortOf 1 = .ok (.bipush 33, 2) := by decide +kernel
theorem dX3_sortOf_3 : decode cX3_sortOf 3 = .ok (.if_icmp .lt 9, 3) := by decide +kernel
theorem dX3_sortOf_6 : decode cX3_sortOf 6 = .ok (.iload_n 0, 1) := by decide +kernel
theorem dX3_sortOf_7 : decode cX3_sortOf 7 = .ok (.bipush 126, 2) := by decide +kernel
theorem dX3_sortOf_9 : decode cX3_sortOf 9 = .ok (.if_icmp .le 8, 3) := by decide +kernel
theorem dX3_sortOf_12 : decode cX3_sortOf 12 = .ok (.iload_n 0, 1) := by decide +kernel
theorem dX3_sortOf_13 : decode cX3_sortOf 13 = .ok (.invokestatic 50, 3) := by decide +kernel
theorem dX3_sortOf_16 : decode cX3_sortOf 16 = .ok (.ireturn, 1) := by decide +kernel
theorem dX3_sortOf_17 : decode cX3_sortOf 17 = .ok (.iload_n 0, 1) := by decide +kernel
theorem dX3_sortOf_18 : decode cX3_sortOf 18 = .ok (.bipush 97, 2) := by decide +kernel
theorem dX3_sortOf_20 : decode cX3_sortOf 20 = .ok (.if_icmp .lt 11, 3) := by decide +kernel
theorem dX3_sortOf_23 : decode cX3_sortOf 23 = .ok (.iload_n 0, 1) := by decide +kernel
theorem dX3_sortOf_24 : decode cX3_sortOf 24 = .ok (.bipush 122, 2) := by decide +kernel
theorem dX3_sortOf_26 : decode cX3_sortOf 26 = .ok (.if_icmp .gt 5, 3) := by decide +kernel
theorem dX3_sortOf_29 : decode cX3_sortOf 29 = .ok (.iconst 1, 1) := by decide +kernel
theorem dX3_sortOf_30 : decode cX3_sortOf 30 = .ok (.ireturn, 1) := by decide +kernel
theorem dX3_sortOf_31 : decode cX3_sortOf 31 = .ok (.iload_n 0, 1) := by decide +kernel
theorem dX3_sortOf_32 : decode cX3_sortOf 32 = .ok (.bipush 65, 2) := by decide +kernel
theorem dX3_sortOf_34 : decode cX3_sortOf 34 = .ok (.if_icmp .lt 11, 3) := by decide +kernel
theorem dX3_sortOf_37 : decode cX3_sortOf 37 = .ok (.iload_n 0, 1) := by decide +kernel
theorem dX3_sortOf_38 : decode cX3_sortOf 38 = .ok (.bipush 90, 2) := by decide +kernel
theorem dX3_sortOf_40 : decode cX3_sortOf 40 = .ok (.if_icmp .gt 5, 3) := by decide +kernel
theorem dX3_sortOf_43 : decode cX3_sortOf 43 = .ok (.iconst 2, 1) := by decide +kernel
theorem dX3_sortOf_44 : decode cX3_sortOf 44 = .ok (.ireturn, 1) := by decide +kernel
theorem dX3_sortOf_45 : decode cX3_sortOf 45 = .ok (.iload_n 0, 1) := by decide +kernel
theorem dX3_sortOf_46 : decode cX3_sortOf 46 = .ok (.bipush 48, 2) := by decide +kernel
theorem dX3_sortOf_48 : decode cX3_sortOf 48 = .ok (.if_icmp .lt 13, 3) := by decide +kernel
theorem dX3_sortOf_51 : decode cX3_sortOf 51 = .ok (.iload_n 0, 1) := by decide +kernel
theorem dX3_sortOf_52 : decode cX3_sortOf 52 = .ok (.bipush 57, 2) := by decide +kernel
theorem dX3_sortOf_54 : decode cX3_sortOf 54 = .ok (.if_icmp .gt 7, 3) := by decide +kernel
theorem dX3_sortOf_57 : decode cX3_sortOf 57 = .ok (.iconst 3, 1) := by decide +kernel
theorem dX3_sortOf_58 : decode cX3_sortOf 58 = .ok (.goto 4, 3) := by decide +kernel
theorem dX3_sortOf_61 : decode cX3_sortOf 61 = .ok (.iconst 5, 1) := by decide +kernel
theorem dX3_sortOf_62 : decode cX3_sortOf 62 = .ok (.ireturn, 1) := by decide +kernel
theorem dX3_sortOutside_0 : decode cX3_sortOutside 0 = .ok (.iload_n 0, 1) := by decide +kernel
theorem dX3_sortOutside_1 : decode cX3_sortOutside 1 = .ok (.bipush 32, 2) := by decide +kernel
theorem dX3_sortOutside_3 : decode cX3_sortOutside 3 = .ok (.if_icmp .ne 5, 3) := by decide +kernel
theorem dX3_sortOutside_6 : decode cX3_sortOutside 6 = .ok (.iconst 4, 1) := by decide +kernel
theorem dX3_sortOutside_7 : decode cX3_sortOutside 7 = .ok (.ireturn, 1) := by decide +kernel
theorem dX3_sortOutside_8 : decode cX3_sortOutside 8 = .ok (.iload_n 0, 1) := by decide +kernel
theorem dX3_sortOutside_9 : decode cX3_sortOutside 9 = .ok (.sipush 192, 3) := by decide +kernel
theorem dX3_sortOutside_12 : decode cX3_sortOutside 12 = .ok (.if_icmp .lt 31, 3) := by decide +kernel
theorem dX3_sortOutside_15 : decode cX3_sortOutside 15 = .ok (.iload_n 0, 1) := by decide +kernel
theorem dX3_sortOutside_16 : decode cX3_sortOutside 16 = .ok (.sipush 591, 3) := by decide +kernel
theorem dX3_sortOutside_19 : decode cX3_sortOutside 19 = .ok (.if_icmp .gt 24, 3) := by decide +kernel
theorem dX3_sortOutside_22 : decode cX3_sortOutside 22 = .ok (.iload_n 0, 1) := by decide +kernel
theorem dX3_sortOutside_23 : decode cX3_sortOutside 23 = .ok (.sipush 215, 3) := by decide +kernel
theorem dX3_sortOutside_26 : decode cX3_sortOutside 26 = .ok (.if_icmp .eq 10, 3) := by decide +kernel
theorem dX3_sortOutside_29 : decode cX3_sortOutside 29 = .ok (.iload_n 0, 1) := by decide +kernel
theorem dX3_sortOutside_30 : decode cX3_sortOutside 30 = .ok (.sipush 247, 3) := by decide +kernel
theorem dX3_sortOutside_33 : decode cX3_sortOutside 33 = .ok (.if_icmp .ne 7, 3) := by decide +kernel
theorem dX3_sortOutside_36 : decode cX3_sortOutside 36 = .ok (.iconst 0, 1) := by decide +kernel
theorem dX3_sortOutside_37 : decode cX3_sortOutside 37 = .ok (.goto 5, 3) := by decide +kernel
theorem dX3_sortOutside_40 : decode cX3_sortOutside 40 = .ok (.bipush 6, 2) := by decide +kernel
theorem dX3_sortOutside_42 : decode cX3_sortOutside 42 = .ok (.ireturn, 1) := by decide +kernel
theorem dX3_sortOutside_43 : decode cX3_sortOutside 43 = .ok (.iload_n 0, 1) := by decide +kernel
theorem dX3_sortOutside_44 : decode cX3_sortOutside 44 = .ok (.sipush 880, 3) := by decide +kernel
theorem dX3_sortOutside_47 : decode cX3_sortOutside 47 = .ok (.if_icmp .lt 15, 3) := by decide +kernel
theorem dX3_sortOutside_50 : decode cX3_sortOutside 50 = .ok (.iload_n 0, 1) := by decide +kernel
theorem dX3_sortOutside_51 : decode cX3_sortOutside 51 = .ok (.sipush 1327, 3) := by decide +kernel
theorem dX3_sortOutside_54 : decode cX3_sortOutside 54 = .ok (.if_icmp .gt 8, 3) := by decide +kernel
theorem dX3_sortOutside_57 : decode cX3_sortOutside 57 = .ok (.bipush 7, 2) := by decide +kernel
theorem dX3_sortOutside_59 : decode cX3_sortOutside 59 = .ok (.goto 4, 3) := by decide +kernel
theorem dX3_sortOutside_62 : decode cX3_sortOutside 62 = .ok (.iconst 0, 1) := by decide +kernel
theorem dX3_sortOutside_63 : decode cX3_sortOutside 63 = .ok (.ireturn, 1) := by decide +kernel
set_option maxRecDepth 20000 in
theorem ggX3_placeFor_X3_pairOf : GoodIn wsX3_placeFor wsX3_pairOf := goodIn_r _ [7] (by decide +kernel) (by decide +kernel)
set_option maxRecDepth 20000 in
theorem gX3_placeFor_X3_pairOf : GoodIn wsX3_placeFor (va_wsS RX3 32 yX3_pairOf wsX3_pairOf) := goodIn_app (goodIn_of _ (by decide +kernel)) ggX3_placeFor_X3_pairOf
theorem dX3_placeFor_0 : decode cX3_placeFor 0 = .ok (.iload_n 1, 1) := by decide +kernel
theorem dX3_placeFor_1 : decode cX3_placeFor 1 = .ok (.iload_n 2, 1) := by decide +kernel
theorem dX3_placeFor_2 : decode cX3_placeFor 2 = .ok (.invokestatic 32, 3) := by decide +kernel
theorem dX3_placeFor_5 : decode cX3_placeFor 5 = .ok (.istore_n 3, 1) := by decide +kernel
theorem dX3_placeFor_6 : decode cX3_placeFor 6 = .ok (.iload_n 3, 1) := by decide +kernel
theorem dX3_placeFor_7 : decode cX3_placeFor 7 = .ok (.ldc 53, 2) := by decide +kernel
theorem dX3_placeFor_9 : decode cX3_placeFor 9 = .ok (.imul, 1) := by decide +kernel
theorem dX3_placeFor_10 : decode cX3_placeFor 10 = .ok (.bipush 22, 2) := by decide +kernel
theorem dX3_placeFor_12 : decode cX3_placeFor 12 = .ok (.iushr, 1) := by decide +kernel
theorem dX3_placeFor_13 : decode cX3_placeFor 13 = .ok (.istore 4, 2) := by decide +kernel
theorem dX3_placeFor_15 : decode cX3_placeFor 15 = .ok (.iconst 0, 1) := by decide +kernel
theorem dX3_placeFor_16 : decode cX3_placeFor 16 = .ok (.istore 5, 2) := by decide +kernel
theorem dX3_placeFor_18 : decode cX3_placeFor 18 = .ok (.iload 5, 2) := by decide +kernel
theorem dX3_placeFor_20 : decode cX3_placeFor 20 = .ok (.sipush 1024, 3) := by decide +kernel
theorem dX3_placeFor_23 : decode cX3_placeFor 23 = .ok (.if_icmp .ge 45, 3) := by decide +kernel
theorem dX3_placeFor_26 : decode cX3_placeFor 26 = .ok (.iload 4, 2) := by decide +kernel
theorem dX3_placeFor_28 : decode cX3_placeFor 28 = .ok (.iload 5, 2) := by decide +kernel
theorem dX3_placeFor_30 : decode cX3_placeFor 30 = .ok (.iadd, 1) := by decide +kernel
theorem dX3_placeFor_31 : decode cX3_placeFor 31 = .ok (.sipush 1023, 3) := by decide +kernel
theorem dX3_placeFor_34 : decode cX3_placeFor 34 = .ok (.iand, 1) := by decide +kernel
theorem dX3_placeFor_35 : decode cX3_placeFor 35 = .ok (.istore 6, 2) := by decide +kernel
theorem dX3_placeFor_37 : decode cX3_placeFor 37 = .ok (.aload_n 0, 1) := by decide +kernel
theorem dX3_placeFor_38 : decode cX3_placeFor 38 = .ok (.getfield 15, 3) := by decide +kernel
theorem dX3_placeFor_41 : decode cX3_placeFor 41 = .ok (.iload 6, 2) := by decide +kernel
theorem dX3_placeFor_43 : decode cX3_placeFor 43 = .ok (.iaload, 1) := by decide +kernel
theorem dX3_placeFor_44 : decode cX3_placeFor 44 = .ok (.iconst (-1), 1) := by decide +kernel
theorem dX3_placeFor_45 : decode cX3_placeFor 45 = .ok (.if_icmp .eq 14, 3) := by decide +kernel
theorem dX3_placeFor_48 : decode cX3_placeFor 48 = .ok (.aload_n 0, 1) := by decide +kernel
theorem dX3_placeFor_49 : decode cX3_placeFor 49 = .ok (.getfield 11, 3) := by decide +kernel
theorem dX3_placeFor_52 : decode cX3_placeFor 52 = .ok (.iload 6, 2) := by decide +kernel
theorem dX3_placeFor_54 : decode cX3_placeFor 54 = .ok (.iaload, 1) := by decide +kernel
theorem dX3_placeFor_55 : decode cX3_placeFor 55 = .ok (.iload_n 3, 1) := by decide +kernel
theorem dX3_placeFor_56 : decode cX3_placeFor 56 = .ok (.if_icmp .ne 6, 3) := by decide +kernel
theorem dX3_placeFor_59 : decode cX3_placeFor 59 = .ok (.iload 6, 2) := by decide +kernel
theorem dX3_placeFor_61 : decode cX3_placeFor 61 = .ok (.ireturn, 1) := by decide +kernel
theorem dX3_placeFor_62 : decode cX3_placeFor 62 = .ok (.iinc 5 1, 3) := by decide +kernel
theorem dX3_placeFor_65 : decode cX3_placeFor 65 = .ok (.goto (-47), 3) := by decide +kernel
theorem dX3_placeFor_68 : decode cX3_placeFor 68 = .ok (.iconst (-1), 1) := by decide +kernel
theorem dX3_placeFor_69 : decode cX3_placeFor 69 = .ok (.ireturn, 1) := by decide +kernel
theorem dX4_init_0 : decode cX4_init 0 = .ok (.aload_n 0, 1) := by decide +kernel
theorem dX4_init_1 : decode cX4_init 1 = .ok (.invokespecial 3, 3) := by decide +kernel
theorem dX4_init_4 : decode cX4_init 4 = .ok (.aload_n 0, 1) := by decide +kernel
theorem dX4_init_5 : decode cX4_init 5 = .ok (.bipush 6, 2) := by decide +kernel
theorem dX4_init_7 : decode cX4_init 7 = .ok (.newarray .int, 2) := by decide +kernel
theorem dX4_init_9 : decode cX4_init 9 = .ok (.putfield 9, 3) := by decide +kernel
theorem dX4_init_12 : decode cX4_init 12 = .ok (.aload_n 0, 1) := by decide +kernel
theorem dX4_init_13 : decode cX4_init 13 = .ok (.bipush 6, 2) := by decide +kernel
theorem dX4_init_15 : decode cX4_init 15 = .ok (.newarray .int, 2) := by decide +kernel
theorem dX4_init_17 : decode cX4_init 17 = .ok (.putfield 15, 3) := by decide +kernel
theorem dX4_init_20 : decode cX4_init 20 = .ok (.aload_n 0, 1) := by decide +kernel
theorem dX4_init_21 : decode cX4_init 21 = .ok (.aload_n 1, 1) := by decide +kernel
theorem dX4_init_22 : decode cX4_init 22 = .ok (.putfield 18, 3) := by decide +kernel
theorem dX4_init_25 : decode cX4_init 25 = .ok (.aload_n 0, 1) := by decide +kernel
theorem dX4_init_26 : decode cX4_init 26 = .ok (.iconst 0, 1) := by decide +kernel
theorem dX4_init_27 : decode cX4_init 27 = .ok (.putfield 22, 3) := by decide +kernel
theorem dX4_init_30 : decode cX4_init 30 = .ok (.return_, 1) := by decide +kernel
theorem dX4_length_0 : decode cX4_length 0 = .ok (.aload_n 0, 1) := by decide +kernel
theorem dX4_length_1 : decode cX4_length 1 = .ok (.getfield 22, 3) := by decide +kernel
theorem dX4_length_4 : decode cX4_length 4 = .ok (.ireturn, 1) := by decide +kernel
theorem dX4_empty_0 : decode cX4_empty 0 = .ok (.aload_n 0, 1) := by decide +kernel
theorem dX4_empty_1 : decode cX4_empty 1 = .ok (.iconst 0, 1) := by decide +kernel
theorem dX4_empty_2 : decode cX4_empty 2 = .ok (.putfield 22, 3) := by decide +kernel
theorem dX4_empty_5 : decode cX4_empty 5 = .ok (.return_, 1) := by decide +kernel
theorem dX4_tell_0 : decode cX4_tell 0 = .ok (.iconst 0, 1) := by decide +kernel
theorem dX4_tell_1 : decode cX4_tell 1 = .ok (.istore_n 3, 1) := by decide +kernel
theorem dX4_tell_2 : decode cX4_tell 2 = .ok (.iload_n 3, 1) := by decide +kernel
theorem dX4_tell_3 : decode cX4_tell 3 = .ok (.aload_n 0, 1) := by decide +kernel
theorem dX4_tell_4 : decode cX4_tell 4 = .ok (.getfield 22, 3) := by decide +kernel
theorem dX4_tell_7 : decode cX4_tell 7 = .ok (.if_icmp .ge 31, 3) := by decide +kernel
theorem dX4_tell_10 : decode cX4_tell 10 = .ok (.aload_n 0, 1) := by decide +kernel
theorem dX4_tell_11 : decode cX4_tell 11 = .ok (.getfield 9, 3) := by decide +kernel
theorem dX4_tell_14 : decode cX4_tell 14 = .ok (.iload_n 3, 1) := by decide +kernel
theorem dX4_tell_15 : decode cX4_tell 15 = .ok (.iaload, 1) := by decide +kernel
theorem dX4_tell_16 : decode cX4_tell 16 = .ok (.iload_n 1, 1) := by decide +kernel
theorem dX4_tell_17 : decode cX4_tell 17 = .ok (.if_icmp .ne 15, 3) := by decide +kernel
theorem dX4_tell_20 : decode cX4_tell 20 = .ok (.aload_n 0, 1) := by decide +kernel
theorem dX4_tell_21 : decode cX4_tell 21 = .ok (.getfield 15, 3) := by decide +kernel
theorem dX4_tell_24 : decode cX4_tell 24 = .ok (.iload_n 3, 1) := by decide +kernel
theorem dX4_tell_25 : decode cX4_tell 25 = .ok (.iaload, 1) := by decide +kernel
theorem dX4_tell_26 : decode cX4_tell 26 = .ok (.iload_n 2, 1) := by decide +kernel
theorem dX4_tell_27 : decode cX4_tell 27 = .ok (.if_icmp .ne 5, 3) := by decide +kernel
theorem dX4_tell_30 : decode cX4_tell 30 = .ok (.iconst 0, 1) := by decide +kernel
theorem dX4_tell_31 : decode cX4_tell 31 = .ok (.ireturn, 1) := by decide +kernel
theorem dX4_tell_32 : decode cX4_tell 32 = .ok (.iinc 3 1, 3) := by decide +kernel
theorem dX4_tell_35 : decode cX4_tell 35 = .ok (.goto (-33), 3) := by decide +kernel
theorem dX4_tell_38 : decode cX4_tell 38 = .ok (.aload_n 0, 1) := by decide +kernel
theorem dX4_tell_39 : decode cX4_tell 39 = .ok (.getfield 22, 3) := by decide +kernel
theorem dX4_tell_42 : decode cX4_tell 42 = .ok (.bipush 6, 2) := by decide +kernel
theorem dX4_tell_44 : decode cX4_tell 44 = .ok (.if_icmp .lt 5, 3) := by decide +kernel
theorem dX4_tell_47 : decode cX4_tell 47 = .ok (.iconst 0, 1) := by decide +kernel
theorem dX4_tell_48 : decode cX4_tell 48 = .ok (.ireturn, 1) := by decide +kernel
theorem dX4_tell_49 : decode cX4_tell 49 = .ok (.aload_n 0, 1) := by decide +kernel
theorem dX4_tell_50 : decode cX4_tell 50 = .ok (.getfield 9, 3) := by decide +kernel
theorem dX4_tell_53 : decode cX4_tell 53 = .ok (.aload_n 0, 1) := by decide +kernel
theorem dX4_tell_54 : decode cX4_tell 54 = .ok (.getfield 22, 3) := by decide +kernel
theorem dX4_tell_57 : decode cX4_tell 57 = .ok (.iload_n 1, 1) := by decide +kernel
theorem dX4_tell_58 : decode cX4_tell 58 = .ok (.iastore, 1) := by decide +kernel
theorem dX4_tell_59 : decode cX4_tell 59 = .ok (.aload_n 0, 1) := by decide +kernel
theorem dX4_tell_60 : decode cX4_tell 60 = .ok (.getfield 15, 3) := by decide +kernel
theorem dX4_tell_63 : decode cX4_tell 63 = .ok (.aload_n 0, 1) := by decide +kernel
theorem dX4_tell_64 : decode cX4_tell 64 = .ok (.getfield 22, 3) := by decide +kernel
theorem dX4_tell_67 : decode cX4_tell 67 = .ok (.iload_n 2, 1) := by decide +kernel
theorem dX4_tell_68 : decode cX4_tell 68 = .ok (.iastore, 1) := by decide +kernel
theorem dX4_tell_69 : decode cX4_tell 69 = .ok (.aload_n 0, 1) := by decide +kernel
theorem dX4_tell_70 : decode cX4_tell 70 = .ok (.dup, 1) := by decide +kernel
theorem dX4_tell_71 : decode cX4_tell 71 = .ok (.getfield 22, 3) := by decide +kernel
theorem dX4_tell_74 : decode cX4_tell 74 = .ok (.iconst 1, 1) := by decide +kernel
theorem dX4_tell_75 : decode cX4_tell 75 = .ok (.iadd, 1) := by decide +kernel
theorem dX4_tell_76 : decode cX4_tell 76 = .ok (.putfield 22, 3) := by decide +kernel
theorem dX4_tell_79 : decode cX4_tell 79 = .ok (.iconst 1, 1) := by decide +kernel
theorem dX4_tell_80 : decode cX4_tell 80 = .ok (.ireturn, 1) := by decide +kernel
theorem dX4_writtenIn_0 : decode cX4_writtenIn 0 = .ok (.iload_n 1, 1) := by decide +kernel
theorem dX4_writtenIn_1 : decode cX4_writtenIn 1 = .ok (.ifCond .lt 20, 3) := by decide +kernel
theorem dX4_writtenIn_4 : decode cX4_writtenIn 4 = .ok (.iload_n 1, 1) := by decide +kernel
theorem dX4_writtenIn_5 : decode cX4_writtenIn 5 = .ok (.aload_n 0, 1) := by decide +kernel
theorem dX4_writtenIn_6 : decode cX4_writtenIn 6 = .ok (.getfield 22, 3) := by decide +kernel
theorem dX4_writtenIn_9 : decode cX4_writtenIn 9 = .ok (.if_icmp .ge 12, 3) := by decide +kernel
theorem dX4_writtenIn_12 : decode cX4_writtenIn 12 = .ok (.aload_n 0, 1) := by decide +kernel
theorem dX4_writtenIn_13 : decode cX4_writtenIn 13 = .ok (.getfield 9, 3) := by decide +kernel
theorem dX4_writtenIn_16 : decode cX4_writtenIn 16 = .ok (.iload_n 1, 1) := by decide +kernel
theorem dX4_writtenIn_17 : decode cX4_writtenIn 17 = .ok (.iaload, 1) := by decide +kernel
theorem dX4_writtenIn_18 : decode cX4_writtenIn 18 = .ok (.goto 4, 3) := by decide +kernel
theorem dX4_writtenIn_21 : decode cX4_writtenIn 21 = .ok (.iconst (-1), 1) := by decide +kernel
theorem dX4_writtenIn_22 : decode cX4_writtenIn 22 = .ok (.ireturn, 1) := by decide +kernel
theorem dX4_readIn_0 : decode cX4_readIn 0 = .ok (.iload_n 1, 1) := by decide +kernel
theorem dX4_readIn_1 : decode cX4_readIn 1 = .ok (.ifCond .lt 20, 3) := by decide +kernel
theorem dX4_readIn_4 : decode cX4_readIn 4 = .ok (.iload_n 1, 1) := by decide +kernel
theorem dX4_readIn_5 : decode cX4_readIn 5 = .ok (.aload_n 0, 1) := by decide +kernel
theorem dX4_readIn_6 : decode cX4_readIn 6 = .ok (.getfield 22, 3) := by decide +kernel
theorem dX4_readIn_9 : decode cX4_readIn 9 = .ok (.if_icmp .ge 12, 3) := by decide +kernel
theorem dX4_readIn_12 : decode cX4_readIn 12 = .ok (.aload_n 0, 1) := by decide +kernel
theorem dX4_readIn_13 : decode cX4_readIn 13 = .ok (.getfield 15, 3) := by decide +kernel
theorem dX4_readIn_16 : decode cX4_readIn 16 = .ok (.iload_n 1, 1) := by decide +kernel
theorem dX4_readIn_17 : decode cX4_readIn 17 = .ok (.iaload, 1) := by decide +kernel
theorem dX4_readIn_18 : decode cX4_readIn 18 = .ok (.goto 4, 3) := by decide +kernel
theorem dX4_readIn_21 : decode cX4_readIn 21 = .ok (.iconst (-1), 1) := by decide +kernel
theorem dX4_readIn_22 : decode cX4_readIn 22 = .ok (.ireturn, 1) := by decide +kernel
set_option maxRecDepth 20000 in
theorem ggX4_takeOff_X7_pass : GoodIn wsX4_takeOff wsX7_pass := goodIn_r _ [9, 10, 11, 12, 13, 8, 14, 15, 16, 17, 18, 19, 20, 21, 22, 23, 24, 25, 26, 27, 28, 29, 30, 31, 32, 33, 34, 35, 36, 37, 38, 39, 40, 41, 42, 43, 44, 45, 46, 47, 48, 49, 50, 51, 52, 53, 54, 55, 56, 57, 58, 59, 60, 61, 62, 63, 64, 65, 66, 67, 68, 69, 70, 71, 72, 73, 74, 75, 76, 77, 78, 79, 80, 81, 82, 83, 84, 85, 86, 87, 88, 89, 90, 91, 92, 93, 94, 95, 96, 97, 98, 99, 100, 101, 102, 103, 104, 105, 106, 107, 108, 109, 110, 111, 116, 117, 118, 119, 120, 121, 122, 123, 124, 125, 126] (by decide +kernel) (by decide +kernel)
set_option maxRecDepth 20000 in
theorem gX4_takeOff_X7_pass : GoodIn wsX4_takeOff (wsV RX4 26 RX7 yX7_pass wsX7_pass) := goodIn_app (goodIn_of _ (by decide +kernel)) ggX4_takeOff_X7_pass
theorem dX4_takeOff_0 : decode cX4_takeOff 0 = .ok (.iload_n 1, 1) := by decide +kernel
theorem dX4_takeOff_1 : decode cX4_takeOff 1 = .ok (.ifCond .lt 39, 3) := by decide +kernel
theorem dX4_takeOff_4 : decode cX4_takeOff 4 = .ok (.iload_n 1, 1) := by decide +kernel
theorem dX4_takeOff_5 : decode cX4_takeOff 5 = .ok (.aload_n 0, 1) := by decide +kernel
theorem dX4_takeOff_6 : decode cX4_takeOff 6 = .ok (.getfield 22, 3) := by decide +kernel
theorem dX4_takeOff_9 : decode cX4_takeOff 9 = .ok (.if_icmp .ge 31, 3) := by decide +kernel
theorem dX4_takeOff_12 : decode cX4_takeOff 12 = .ok (.aload_n 0, 1) := by decide +kernel
theorem dX4_takeOff_13 : decode cX4_takeOff 13 = .ok (.getfield 18, 3) := by decide +kernel
theorem dX4_takeOff_16 : decode cX4_takeOff 16 = .ok (.aload_n 0, 1) := by decide +kernel
theorem dX4_takeOff_17 : decode cX4_takeOff 17 = .ok (.getfield 15, 3) := by decide +kernel
theorem dX4_takeOff_20 : decode cX4_takeOff 20 = .ok (.iload_n 1, 1) := by decide +kernel
theorem dX4_takeOff_21 : decode cX4_takeOff 21 = .ok (.iaload, 1) := by decide +kernel
theorem dX4_takeOff_22 : decode cX4_takeOff 22 = .ok (.aload_n 0, 1) := by decide +kernel
theorem dX4_takeOff_23 : decode cX4_takeOff 23 = .ok (.getfield 9, 3) := by decide +kernel
theorem dX4_takeOff_26 : decode cX4_takeOff 26 = .ok (.iload_n 1, 1) := by decide +kernel
theorem dX4_takeOff_27 : decode cX4_takeOff 27 = .ok (.iaload, 1) := by decide +kernel
theorem dX4_takeOff_28 : decode cX4_takeOff 28 = .ok (.aload_n 2, 1) := by decide +kernel
theorem dX4_takeOff_29 : decode cX4_takeOff 29 = .ok (.aload_n 3, 1) := by decide +kernel
theorem dX4_takeOff_30 : decode cX4_takeOff 30 = .ok (.invokevirtual 26, 3) := by decide +kernel
theorem dX4_takeOff_33 : decode cX4_takeOff 33 = .ok (.ifCond .eq 7, 3) := by decide +kernel
theorem dX4_takeOff_36 : decode cX4_takeOff 36 = .ok (.iconst 1, 1) := by decide +kernel
theorem dX4_takeOff_37 : decode cX4_takeOff 37 = .ok (.goto 4, 3) := by decide +kernel
theorem dX4_takeOff_40 : decode cX4_takeOff 40 = .ok (.iconst 0, 1) := by decide +kernel
theorem dX4_takeOff_41 : decode cX4_takeOff 41 = .ok (.ireturn, 1) := by decide +kernel
theorem dX5_init_0 : decode cX5_init 0 = .ok (.aload_n 0, 1) := by decide +kernel
theorem dX5_init_1 : decode cX5_init 1 = .ok (.invokespecial 3, 3) := by decide +kernel
theorem dX5_init_4 : decode cX5_init 4 = .ok (.aload_n 0, 1) := by decide +kernel
theorem dX5_init_5 : decode cX5_init 5 = .ok (.iconst 0, 1) := by decide +kernel
theorem dX5_init_6 : decode cX5_init 6 = .ok (.iload_n 1, 1) := by decide +kernel
theorem dX5_init_7 : decode cX5_init 7 = .ok (.invokestatic 9, 3) := by decide +kernel
theorem dX5_init_10 : decode cX5_init 10 = .ok (.newarray .int, 2) := by decide +kernel
theorem dX5_init_12 : decode cX5_init 12 = .ok (.putfield 15, 3) := by decide +kernel
theorem dX5_init_15 : decode cX5_init 15 = .ok (.aload_n 0, 1) := by decide +kernel
theorem dX5_init_16 : decode cX5_init 16 = .ok (.iconst 0, 1) := by decide +kernel
theorem dX5_init_17 : decode cX5_init 17 = .ok (.putfield 21, 3) := by decide +kernel
theorem dX5_init_20 : decode cX5_init 20 = .ok (.return_, 1) := by decide +kernel
theorem dX5_length_0 : decode cX5_length 0 = .ok (.aload_n 0, 1) := by decide +kernel
theorem dX5_length_1 : decode cX5_length 1 = .ok (.getfield 21, 3) := by decide +kernel
theorem dX5_length_4 : decode cX5_length 4 = .ok (.ireturn, 1) := by decide +kernel
theorem dX5_get_0 : decode cX5_get 0 = .ok (.iload_n 1, 1) := by decide +kernel
theorem dX5_get_1 : decode cX5_get 1 = .ok (.ifCond .lt 20, 3) := by decide +kernel
theorem dX5_get_4 : decode cX5_get 4 = .ok (.iload_n 1, 1) := by decide +kernel
theorem dX5_get_5 : decode cX5_get 5 = .ok (.aload_n 0, 1) := by decide +kernel
theorem dX5_get_6 : decode cX5_get 6 = .ok (.getfield 21, 3) := by decide +kernel
theorem dX5_get_9 : decode cX5_get 9 = .ok (.if_icmp .ge 12, 3) := by decide +kernel
theorem dX5_get_12 : decode cX5_get 12 = .ok (.aload_n 0, 1) := by decide +kernel
theorem dX5_get_13 : decode cX5_get 13 = .ok (.getfield 15, 3) := by decide +kernel
theorem dX5_get_16 : decode cX5_get 16 = .ok (.iload_n 1, 1) := by decide +kernel
theorem dX5_get_17 : decode cX5_get 17 = .ok (.iaload, 1) := by decide +kernel
theorem dX5_get_18 : decode cX5_get 18 = .ok (.goto 4, 3) := by decide +kernel
theorem dX5_get_21 : decode cX5_get 21 = .ok (.iconst (-1), 1) := by decide +kernel
theorem dX5_get_22 : decode cX5_get 22 = .ok (.ireturn, 1) := by decide +kernel
theorem dX5_set_0 : decode cX5_set 0 = .ok (.iload_n 1, 1) := by decide +kernel
theorem dX5_set_1 : decode cX5_set 1 = .ok (.ifCond .lt 18, 3) := by decide +kernel
theorem dX5_set_4 : decode cX5_set 4 = .ok (.iload_n 1, 1) := by decide +kernel
theorem dX5_set_5 : decode cX5_set 5 = .ok (.aload_n 0, 1) := by decide +kernel
theorem dX5_set_6 : decode cX5_set 6 = .ok (.getfield 21, 3) := by decide +kernel
theorem dX5_set_9 : decode cX5_set 9 = .ok (.if_icmp .ge 10, 3) := by decide +kernel
theorem dX5_set_12 : decode cX5_set 12 = .ok (.aload_n 0, 1) := by decide +kernel
theorem dX5_set_13 : decode cX5_set 13 = .ok (.getfield 15, 3) := by decide +kernel
theorem dX5_set_16 : decode cX5_set 16 = .ok (.iload_n 1, 1) := by decide +kernel
theorem dX5_set_17 : decode cX5_set 17 = .ok (.iload_n 2, 1) := by decide +kernel
theorem dX5_set_18 : decode cX5_set 18 = .ok (.iastore, 1) := by decide +kernel
theorem dX5_set_19 : decode cX5_set 19 = .ok (.return_, 1) := by decide +kernel
theorem dX5_add_0 : decode cX5_add 0 = .ok (.aload_n 0, 1) := by decide +kernel
theorem dX5_add_1 : decode cX5_add 1 = .ok (.getfield 21, 3) := by decide +kernel
theorem dX5_add_4 : decode cX5_add 4 = .ok (.aload_n 0, 1) := by decide +kernel
theorem dX5_add_5 : decode cX5_add 5 = .ok (.getfield 15, 3) := by decide +kernel
theorem dX5_add_8 : decode cX5_add 8 = .ok (.arraylength, 1) := by decide +kernel
theorem dX5_add_9 : decode cX5_add 9 = .ok (.if_icmp .lt 5, 3) := by decide +kernel
theorem dX5_add_12 : decode cX5_add 12 = .ok (.iconst 0, 1) := by decide +kernel
theorem dX5_add_13 : decode cX5_add 13 = .ok (.ireturn, 1) := by decide +kernel
theorem dX5_add_14 : decode cX5_add 14 = .ok (.aload_n 0, 1) := by decide +kernel
theorem dX5_add_15 : decode cX5_add 15 = .ok (.getfield 15, 3) := by decide +kernel
theorem dX5_add_18 : decode cX5_add 18 = .ok (.aload_n 0, 1) := by decide +kernel
theorem dX5_add_19 : decode cX5_add 19 = .ok (.getfield 21, 3) := by decide +kernel
theorem dX5_add_22 : decode cX5_add 22 = .ok (.iload_n 1, 1) := by decide +kernel
theorem dX5_add_23 : decode cX5_add 23 = .ok (.iastore, 1) := by decide +kernel
theorem dX5_add_24 : decode cX5_add 24 = .ok (.aload_n 0, 1) := by decide +kernel
theorem dX5_add_25 : decode cX5_add 25 = .ok (.dup, 1) := by decide +kernel
theorem dX5_add_26 : decode cX5_add 26 = .ok (.getfield 21, 3) := by decide +kernel
theorem dX5_add_29 : decode cX5_add 29 = .ok (.iconst 1, 1) := by decide +kernel
theorem dX5_add_30 : decode cX5_add 30 = .ok (.iadd, 1) := by decide +kernel
theorem dX5_add_31 : decode cX5_add 31 = .ok (.putfield 21, 3) := by decide +kernel
theorem dX5_add_34 : decode cX5_add 34 = .ok (.iconst 1, 1) := by decide +kernel
theorem dX5_add_35 : decode cX5_add 35 = .ok (.ireturn, 1) := by decide +kernel
theorem dX5_addAll_0 : decode cX5_addAll 0 = .ok (.aload_n 1, 1) := by decide +kernel
theorem dX5_addAll_1 : decode cX5_addAll 1 = .ok (.getfield 21, 3) := by decide +kernel
theorem dX5_addAll_4 : decode cX5_addAll 4 = .ok (.aload_n 0, 1) := by decide +kernel
theorem dX5_addAll_5 : decode cX5_addAll 5 = .ok (.getfield 15, 3) := by decide +kernel
theorem dX5_addAll_8 : decode cX5_addAll 8 = .ok (.arraylength, 1) := by decide +kernel
theorem dX5_addAll_9 : decode cX5_addAll 9 = .ok (.aload_n 0, 1) := by decide +kernel
theorem dX5_addAll_10 : decode cX5_addAll 10 = .ok (.getfield 21, 3) := by decide +kernel
theorem dX5_addAll_13 : decode cX5_addAll 13 = .ok (.isub, 1) := by decide +kernel
theorem dX5_addAll_14 : decode cX5_addAll 14 = .ok (.if_icmp .le 5, 3) := by decide +kernel
theorem dX5_addAll_17 : decode cX5_addAll 17 = .ok (.iconst 0, 1) := by decide +kernel
theorem dX5_addAll_18 : decode cX5_addAll 18 = .ok (.ireturn, 1) := by decide +kernel
theorem dX5_addAll_19 : decode cX5_addAll 19 = .ok (.aload_n 1, 1) := by decide +kernel
theorem dX5_addAll_20 : decode cX5_addAll 20 = .ok (.getfield 15, 3) := by decide +kernel
theorem dX5_addAll_23 : decode cX5_addAll 23 = .ok (.iconst 0, 1) := by decide +kernel
theorem dX5_addAll_24 : decode cX5_addAll 24 = .ok (.aload_n 0, 1) := by decide +kernel
theorem dX5_addAll_25 : decode cX5_addAll 25 = .ok (.getfield 15, 3) := by decide +kernel
theorem dX5_addAll_28 : decode cX5_addAll 28 = .ok (.aload_n 0, 1) := by decide +kernel
theorem dX5_addAll_29 : decode cX5_addAll 29 = .ok (.getfield 21, 3) := by decide +kernel
theorem dX5_addAll_32 : decode cX5_addAll 32 = .ok (.aload_n 1, 1) := by decide +kernel
theorem dX5_addAll_33 : decode cX5_addAll 33 = .ok (.getfield 21, 3) := by decide +kernel
theorem dX5_addAll_36 : decode cX5_addAll 36 = .ok (.invokestatic 25, 3) := by decide +kernel
theorem dX5_addAll_39 : decode cX5_addAll 39 = .ok (.aload_n 0, 1) := by decide +kernel
theorem dX5_addAll_40 : decode cX5_addAll 40 = .ok (.dup, 1) := by decide +kernel
theorem dX5_addAll_41 : decode cX5_addAll 41 = .ok (.getfield 21, 3) := by decide +kernel
theorem dX5_addAll_44 : decode cX5_addAll 44 = .ok (.aload_n 1, 1) := by decide +kernel
theorem dX5_addAll_45 : decode cX5_addAll 45 = .ok (.getfield 21, 3) := by decide +kernel
theorem dX5_addAll_48 : decode cX5_addAll 48 = .ok (.iadd, 1) := by decide +kernel
theorem dX5_addAll_49 : decode cX5_addAll 49 = .ok (.putfield 21, 3) := by decide +kernel
theorem dX5_addAll_52 : decode cX5_addAll 52 = .ok (.iconst 1, 1) := by decide +kernel
theorem dX5_addAll_53 : decode cX5_addAll 53 = .ok (.ireturn, 1) := by decide +kernel
set_option maxRecDepth 20000 in
theorem ggX5_takeAll_X5_addAll : GoodIn wsX5_takeAll wsX5_addAll := goodIn_r _ [6, 1, 7, 8, 9, 10, 11, 12, 13] (by decide +kernel) (by decide +kernel)
set_option maxRecDepth 20000 in
theorem gX5_takeAll_X5_addAll : GoodIn wsX5_takeAll (wsV RX5 31 RX5 yX5_addAll wsX5_addAll) := goodIn_app (goodIn_of _ (by decide +kernel)) ggX5_takeAll_X5_addAll
theorem dX5_takeAll_0 : decode cX5_takeAll 0 = .ok (.aload_n 0, 1) := by decide +kernel
theorem dX5_takeAll_1 : decode cX5_takeAll 1 = .ok (.iconst 0, 1) := by decide +kernel
theorem dX5_takeAll_2 : decode cX5_takeAll 2 = .ok (.putfield 21, 3) := by decide +kernel
theorem dX5_takeAll_5 : decode cX5_takeAll 5 = .ok (.aload_n 0, 1) := by decide +kernel
theorem dX5_takeAll_6 : decode cX5_takeAll 6 = .ok (.aload_n 1, 1) := by decide +kernel
theorem dX5_takeAll_7 : decode cX5_takeAll 7 = .ok (.invokevirtual 31, 3) := by decide +kernel
theorem dX5_takeAll_10 : decode cX5_takeAll 10 = .ok (.ireturn, 1) := by decide +kernel
theorem dX5_cut_0 : decode cX5_cut 0 = .ok (.iload_n 1, 1) := by decide +kernel
theorem dX5_cut_1 : decode cX5_cut 1 = .ok (.ifCond .lt 16, 3) := by decide +kernel
theorem dX5_cut_4 : decode cX5_cut 4 = .ok (.iload_n 1, 1) := by decide +kernel
theorem dX5_cut_5 : decode cX5_cut 5 = .ok (.aload_n 0, 1) := by decide +kernel
theorem dX5_cut_6 : decode cX5_cut 6 = .ok (.getfield 21, 3) := by decide +kernel
theorem dX5_cut_9 : decode cX5_cut 9 = .ok (.if_icmp .ge 8, 3) := by decide +kernel
theorem dX5_cut_12 : decode cX5_cut 12 = .ok (.aload_n 0, 1) := by decide +kernel
theorem dX5_cut_13 : decode cX5_cut 13 = .ok (.iload_n 1, 1) := by decide +kernel
theorem dX5_cut_14 : decode cX5_cut 14 = .ok (.putfield 21, 3) := by decide +kernel
theorem dX5_cut_17 : decode cX5_cut 17 = .ok (.return_, 1) := by decide +kernel
set_option maxRecDepth 20000 in
theorem ggX7_init_X5_init : GoodIn wsX7_init wsX5_init := goodIn_r _ [12, 13, 2, 3, 14, 15, 16, 17, 18, 19, 20, 21, 22] (by decide +kernel) (by decide +kernel)
set_option maxRecDepth 20000 in
theorem gX7_init_X5_init : GoodIn wsX7_init (wsX5_init) := ggX7_init_X5_init
theorem dX7_init_0 : decode cX7_init 0 = .ok (.aload_n 0, 1) := by decide +kernel
theorem dX7_init_1 : decode cX7_init 1 = .ok (.invokespecial 3, 3) := by decide +kernel
theorem dX7_init_4 : decode cX7_init 4 = .ok (.aload_n 0, 1) := by decide +kernel
theorem dX7_init_5 : decode cX7_init 5 = .ok (.new 9, 3) := by decide +kernel
theorem dX7_init_8 : decode cX7_init 8 = .ok (.dup, 1) := by decide +kernel
theorem dX7_init_9 : decode cX7_init 9 = .ok (.sipush 2400, 3) := by decide +kernel
theorem dX7_init_12 : decode cX7_init 12 = .ok (.invokespecial 11, 3) := by decide +kernel
theorem dX7_init_15 : decode cX7_init 15 = .ok (.putfield 14, 3) := by decide +kernel
theorem dX7_init_18 : decode cX7_init 18 = .ok (.aload_n 0, 1) := by decide +kernel
theorem dX7_init_19 : decode cX7_init 19 = .ok (.aload_n 1, 1) := by decide +kernel
theorem dX7_init_20 : decode cX7_init 20 = .ok (.putfield 20, 3) := by decide +kernel
theorem dX7_init_23 : decode cX7_init 23 = .ok (.aload_n 0, 1) := by decide +kernel
theorem dX7_init_24 : decode cX7_init 24 = .ok (.iconst (-1), 1) := by decide +kernel
theorem dX7_init_25 : decode cX7_init 25 = .ok (.putfield 24, 3) := by decide +kernel
theorem dX7_init_28 : decode cX7_init 28 = .ok (.return_, 1) := by decide +kernel
theorem dX7_bytes_0 : decode cX7_bytes 0 = .ok (.aload_n 0, 1) := by decide +kernel
theorem dX7_bytes_1 : decode cX7_bytes 1 = .ok (.getfield 14, 3) := by decide +kernel
theorem dX7_bytes_4 : decode cX7_bytes 4 = .ok (.areturn, 1) := by decide +kernel
theorem dX7_fault_0 : decode cX7_fault 0 = .ok (.aload_n 0, 1) := by decide +kernel
theorem dX7_fault_1 : decode cX7_fault 1 = .ok (.getfield 24, 3) := by decide +kernel
theorem dX7_fault_4 : decode cX7_fault 4 = .ok (.ireturn, 1) := by decide +kernel
set_option maxRecDepth 20000 in
theorem ggX7_write_X5_cut : GoodIn wsX7_write wsX5_cut := goodIn_r _ [8, 9, 58, 59] (by decide +kernel) (by decide +kernel)
set_option maxRecDepth 20000 in
theorem gX7_write_X5_cut : GoodIn wsX7_write (wsV RX7 28 RX5 yX5_cut wsX5_cut) := goodIn_app (goodIn_of _ (by decide +kernel)) ggX7_write_X5_cut
set_option maxRecDepth 20000 in
theorem ggX7_write_X5_length : GoodIn wsX7_write wsX5_length := goodIn_r _ [13, 9, 58, 59] (by decide +kernel) (by decide +kernel)
set_option maxRecDepth 20000 in
theorem gX7_write_X5_length : GoodIn wsX7_write (wsV RX7 31 RX5 yX5_length wsX5_length) := goodIn_app (goodIn_of _ (by decide +kernel)) ggX7_write_X5_length
set_option maxRecDepth 20000 in
theorem ggX7_write_X5_get : GoodIn wsX7_write wsX5_get := goodIn_r _ [17, 9, 18, 58, 59] (by decide +kernel) (by decide +kernel)
set_option maxRecDepth 20000 in
theorem gX7_write_X5_get : GoodIn wsX7_write (wsV RX7 35 RX5 yX5_get wsX5_get) := goodIn_app (goodIn_of _ (by decide +kernel)) ggX7_write_X5_get
set_option maxRecDepth 20000 in
theorem ggX7_write_X2_encode : GoodIn wsX7_write wsX2_encode := goodIn_r _ [23, 24, 25, 26, 7, 27, 9, 18, 28, 29, 22, 30, 31, 32, 33, 34, 35, 36, 37, 38, 39, 40, 41, 42, 43, 44, 45, 46, 47, 48, 49, 50, 51, 52, 53, 54, 58, 59, 60, 61, 62, 63, 64, 65] (by decide +kernel) (by decide +kernel)
set_option maxRecDepth 20000 in
theorem gX7_write_X2_encode : GoodIn wsX7_write (wsV RX7 39 RX2 yX2_encode wsX2_encode) := goodIn_app (goodIn_of _ (by decide +kernel)) ggX7_write_X2_encode
theorem dX7_write_0 : decode cX7_write 0 = .ok (.aload_n 0, 1) := by decide +kernel
theorem dX7_write_1 : decode cX7_write 1 = .ok (.iconst (-1), 1) := by decide +kernel
theorem dX7_write_2 : decode cX7_write 2 = .ok (.putfield 24, 3) := by decide +kernel
theorem dX7_write_5 : decode cX7_write 5 = .ok (.aload_n 0, 1) := by decide +kernel
theorem dX7_write_6 : decode cX7_write 6 = .ok (.getfield 14, 3) := by decide +kernel
theorem dX7_write_9 : decode cX7_write 9 = .ok (.iconst 0, 1) := by decide +kernel
theorem dX7_write_10 : decode cX7_write 10 = .ok (.invokevirtual 28, 3) := by decide +kernel
theorem dX7_write_13 : decode cX7_write 13 = .ok (.iconst 0, 1) := by decide +kernel
theorem dX7_write_14 : decode cX7_write 14 = .ok (.istore_n 3, 1) := by decide +kernel
theorem dX7_write_15 : decode cX7_write 15 = .ok (.iload_n 3, 1) := by decide +kernel
theorem dX7_write_16 : decode cX7_write 16 = .ok (.aload_n 2, 1) := by decide +kernel
theorem dX7_write_17 : decode cX7_write 17 = .ok (.invokevirtual 31, 3) := by decide +kernel
theorem dX7_write_20 : decode cX7_write 20 = .ok (.if_icmp .ge 36, 3) := by decide +kernel
theorem dX7_write_23 : decode cX7_write 23 = .ok (.aload_n 0, 1) := by decide +kernel
theorem dX7_write_24 : decode cX7_write 24 = .ok (.getfield 20, 3) := by decide +kernel
theorem dX7_write_27 : decode cX7_write 27 = .ok (.iload_n 1, 1) := by decide +kernel
theorem dX7_write_28 : decode cX7_write 28 = .ok (.aload_n 2, 1) := by decide +kernel
theorem dX7_write_29 : decode cX7_write 29 = .ok (.iload_n 3, 1) := by decide +kernel
theorem dX7_write_30 : decode cX7_write 30 = .ok (.invokevirtual 35, 3) := by decide +kernel
theorem dX7_write_33 : decode cX7_write 33 = .ok (.aload_n 0, 1) := by decide +kernel
theorem dX7_write_34 : decode cX7_write 34 = .ok (.getfield 14, 3) := by decide +kernel
theorem dX7_write_37 : decode cX7_write 37 = .ok (.invokevirtual 39, 3) := by decide +kernel
theorem dX7_write_40 : decode cX7_write 40 = .ok (.ifCond .ne 10, 3) := by decide +kernel
theorem dX7_write_43 : decode cX7_write 43 = .ok (.aload_n 0, 1) := by decide +kernel
theorem dX7_write_44 : decode cX7_write 44 = .ok (.iload_n 3, 1) := by decide +kernel
theorem dX7_write_45 : decode cX7_write 45 = .ok (.putfield 24, 3) := by decide +kernel
theorem dX7_write_48 : decode cX7_write 48 = .ok (.iconst 0, 1) := by decide +kernel
theorem dX7_write_49 : decode cX7_write 49 = .ok (.ireturn, 1) := by decide +kernel
theorem dX7_write_50 : decode cX7_write 50 = .ok (.iinc 3 1, 3) := by decide +kernel
theorem dX7_write_53 : decode cX7_write 53 = .ok (.goto (-38), 3) := by decide +kernel
theorem dX7_write_56 : decode cX7_write 56 = .ok (.iconst 1, 1) := by decide +kernel
theorem dX7_write_57 : decode cX7_write 57 = .ok (.ireturn, 1) := by decide +kernel
set_option maxRecDepth 20000 in
theorem ggX7_readExactly_X5_cut : GoodIn wsX7_readExactly wsX5_cut := goodIn_r _ [11, 12, 74, 75] (by decide +kernel) (by decide +kernel)
set_option maxRecDepth 20000 in
theorem gX7_readExactly_X5_cut : GoodIn wsX7_readExactly (wsV RX7 28 RX5 yX5_cut wsX5_cut) := goodIn_app (goodIn_of _ (by decide +kernel)) ggX7_readExactly_X5_cut
set_option maxRecDepth 20000 in
theorem ggX7_readExactly_X5_length : GoodIn wsX7_readExactly wsX5_length := goodIn_r _ [16, 12, 74, 75] (by decide +kernel) (by decide +kernel)
set_option maxRecDepth 20000 in
theorem gX7_readExactly_X5_length : GoodIn wsX7_readExactly (wsV RX7 31 RX5 yX5_length wsX5_length) := goodIn_app (goodIn_of _ (by decide +kernel)) ggX7_readExactly_X5_length
set_option maxRecDepth 20000 in
theorem ggX7_readExactly_X2_decode : GoodIn wsX7_readExactly wsX2_decode := goodIn_r _ [21, 22, 23, 24, 10, 25, 12, 26, 27, 28, 29, 20, 30, 31, 32, 33, 34, 35, 36, 37, 38, 39, 40, 41, 42, 43, 44, 45, 46, 47, 48, 49, 50, 51, 52, 53, 54, 55, 56, 57, 58, 59, 60, 74, 75, 76, 77, 78, 79, 80, 81] (by decide +kernel) (by decide +kernel)
set_option maxRecDepth 20000 in
theorem gX7_readExactly_X2_decode : GoodIn wsX7_readExactly (wsV RX7 45 RX2 yX2_decode wsX2_decode) := goodIn_app (goodIn_of _ (by decide +kernel)) ggX7_readExactly_X2_decode
set_option maxRecDepth 20000 in
theorem ggX7_readExactly_X2_letterIn : GoodIn wsX7_readExactly wsX2_letterIn := goodIn_r _ [63] (by decide +kernel) (by decide +kernel)
set_option maxRecDepth 20000 in
theorem gX7_readExactly_X2_letterIn : GoodIn wsX7_readExactly (va_wsS RX7 49 yX2_letterIn wsX2_letterIn) := goodIn_app (goodIn_of _ (by decide +kernel)) ggX7_readExactly_X2_letterIn
set_option maxRecDepth 20000 in
theorem ggX7_readExactly_X5_add : GoodIn wsX7_readExactly wsX5_add := goodIn_r _ [67, 12, 26, 74, 75] (by decide +kernel) (by decide +kernel)
set_option maxRecDepth 20000 in
theorem gX7_readExactly_X5_add : GoodIn wsX7_readExactly (wsV RX7 52 RX5 yX5_add wsX5_add) := goodIn_app (goodIn_of _ (by decide +kernel)) ggX7_readExactly_X5_add
set_option maxRecDepth 20000 in
theorem ggX7_readExactly_X2_bytesIn : GoodIn wsX7_readExactly wsX2_bytesIn := goodIn_r _ [70] (by decide +kernel) (by decide +kernel)
set_option maxRecDepth 20000 in
theorem gX7_readExactly_X2_bytesIn : GoodIn wsX7_readExactly (va_wsS RX7 56 yX2_bytesIn wsX2_bytesIn) := goodIn_app (goodIn_of _ (by decide +kernel)) ggX7_readExactly_X2_bytesIn
theorem dX7_readExactly_0 : decode cX7_readExactly 0 = .ok (.aload_n 0, 1) := by decide +kernel
theorem dX7_readExactly_1 : decode cX7_readExactly 1 = .ok (.iconst (-1), 1) := by decide +kernel
theorem dX7_readExactly_2 : decode cX7_readExactly 2 = .ok (.putfield 24, 3) := by decide +kernel
theorem dX7_readExactly_5 : decode cX7_readExactly 5 = .ok (.aload_n 3, 1) := by decide +kernel
theorem dX7_readExactly_6 : decode cX7_readExactly 6 = .ok (.iconst 0, 1) := by decide +kernel
theorem dX7_readExactly_7 : decode cX7_readExactly 7 = .ok (.invokevirtual 28, 3) := by decide +kernel
theorem dX7_readExactly_10 : decode cX7_readExactly 10 = .ok (.iconst 1, 1) := by decide +kernel
theorem dX7_readExactly_11 : decode cX7_readExactly 11 = .ok (.istore 4, 2) := by decide +kernel
theorem dX7_readExactly_13 : decode cX7_readExactly 13 = .ok (.iconst 0, 1) := by decide +kernel
theorem dX7_readExactly_14 : decode cX7_readExactly 14 = .ok (.istore 5, 2) := by decide +kernel
theorem dX7_readExactly_16 : decode cX7_readExactly 16 = .ok (.iload 5, 2) := by decide +kernel
theorem dX7_readExactly_18 : decode cX7_readExactly 18 = .ok (.aload_n 2, 1) := by decide +kernel
theorem dX7_readExactly_19 : decode cX7_readExactly 19 = .ok (.invokevirtual 31, 3) := by decide +kernel
theorem dX7_readExactly_22 : decode cX7_readExactly 22 = .ok (.if_icmp .ge 75, 3) := by decide +kernel
theorem dX7_readExactly_25 : decode cX7_readExactly 25 = .ok (.aload_n 0, 1) := by decide +kernel
theorem dX7_readExactly_26 : decode cX7_readExactly 26 = .ok (.getfield 20, 3) := by decide +kernel
theorem dX7_readExactly_29 : decode cX7_readExactly 29 = .ok (.iload_n 1, 1) := by decide +kernel
theorem dX7_readExactly_30 : decode cX7_readExactly 30 = .ok (.aload_n 2, 1) := by decide +kernel
theorem dX7_readExactly_31 : decode cX7_readExactly 31 = .ok (.iload 5, 2) := by decide +kernel
theorem dX7_readExactly_33 : decode cX7_readExactly 33 = .ok (.aload_n 2, 1) := by decide +kernel
theorem dX7_readExactly_34 : decode cX7_readExactly 34 = .ok (.invokevirtual 31, 3) := by decide +kernel
theorem dX7_readExactly_37 : decode cX7_readExactly 37 = .ok (.invokevirtual 45, 3) := by decide +kernel
theorem dX7_readExactly_40 : decode cX7_readExactly 40 = .ok (.istore 6, 2) := by decide +kernel
theorem dX7_readExactly_42 : decode cX7_readExactly 42 = .ok (.iload 6, 2) := by decide +kernel
theorem dX7_readExactly_44 : decode cX7_readExactly 44 = .ok (.iconst (-1), 1) := by decide +kernel
theorem dX7_readExactly_45 : decode cX7_readExactly 45 = .ok (.if_icmp .ne 11, 3) := by decide +kernel
theorem dX7_readExactly_48 : decode cX7_readExactly 48 = .ok (.aload_n 0, 1) := by decide +kernel
theorem dX7_readExactly_49 : decode cX7_readExactly 49 = .ok (.iload 5, 2) := by decide +kernel
theorem dX7_readExactly_51 : decode cX7_readExactly 51 = .ok (.putfield 24, 3) := by decide +kernel
theorem dX7_readExactly_54 : decode cX7_readExactly 54 = .ok (.iconst 0, 1) := by decide +kernel
theorem dX7_readExactly_55 : decode cX7_readExactly 55 = .ok (.ireturn, 1) := by decide +kernel
theorem dX7_readExactly_56 : decode cX7_readExactly 56 = .ok (.aload_n 3, 1) := by decide +kernel
theorem dX7_readExactly_57 : decode cX7_readExactly 57 = .ok (.iload 6, 2) := by decide +kernel
theorem dX7_readExactly_59 : decode cX7_readExactly 59 = .ok (.invokestatic 49, 3) := by decide +kernel
theorem dX7_readExactly_62 : decode cX7_readExactly 62 = .ok (.invokevirtual 52, 3) := by decide +kernel
theorem dX7_readExactly_65 : decode cX7_readExactly 65 = .ok (.ifCond .eq 12, 3) := by decide +kernel
theorem dX7_readExactly_68 : decode cX7_readExactly 68 = .ok (.iload 4, 2) := by decide +kernel
theorem dX7_readExactly_70 : decode cX7_readExactly 70 = .ok (.ifCond .eq 7, 3) := by decide +kernel
theorem dX7_readExactly_73 : decode cX7_readExactly 73 = .ok (.iconst 1, 1) := by decide +kernel
theorem dX7_readExactly_74 : decode cX7_readExactly 74 = .ok (.goto 4, 3) := by decide +kernel
theorem dX7_readExactly_77 : decode cX7_readExactly 77 = .ok (.iconst 0, 1) := by decide +kernel
theorem dX7_readExactly_78 : decode cX7_readExactly 78 = .ok (.istore 4, 2) := by decide +kernel
theorem dX7_readExactly_80 : decode cX7_readExactly 80 = .ok (.iload 5, 2) := by decide +kernel
theorem dX7_readExactly_82 : decode cX7_readExactly 82 = .ok (.iconst 1, 1) := by decide +kernel
theorem dX7_readExactly_83 : decode cX7_readExactly 83 = .ok (.iload 6, 2) := by decide +kernel
theorem dX7_readExactly_85 : decode cX7_readExactly 85 = .ok (.invokestatic 56, 3) := by decide +kernel
theorem dX7_readExactly_88 : decode cX7_readExactly 88 = .ok (.invokestatic 59, 3) := by decide +kernel
theorem dX7_readExactly_91 : decode cX7_readExactly 91 = .ok (.iadd, 1) := by decide +kernel
theorem dX7_readExactly_92 : decode cX7_readExactly 92 = .ok (.istore 5, 2) := by decide +kernel
theorem dX7_readExactly_94 : decode cX7_readExactly 94 = .ok (.goto (-78), 3) := by decide +kernel
theorem dX7_readExactly_97 : decode cX7_readExactly 97 = .ok (.iload 4, 2) := by decide +kernel
theorem dX7_readExactly_99 : decode cX7_readExactly 99 = .ok (.ireturn, 1) := by decide +kernel
set_option maxRecDepth 20000 in
theorem ggX7_pass_X7_write : GoodIn wsX7_pass wsX7_write := goodIn_r _ [6, 7, 1, 8, 9, 10, 11, 12, 13, 14, 15, 16, 17, 18, 19, 20, 21, 22, 23, 24, 25, 26, 27, 28, 29, 30, 31, 32, 33, 34, 35, 36, 37, 38, 39, 40, 41, 42, 43, 44, 45, 46, 47, 48, 49, 50, 51, 52, 53, 54, 55, 56, 57, 58, 59, 104, 105, 106, 107, 108, 109, 110, 111, 112, 113, 114] (by decide +kernel) (by decide +kernel)
set_option maxRecDepth 20000 in
theorem gX7_pass_X7_write : GoodIn wsX7_pass (wsV RX7 65 RX7 yX7_write wsX7_write) := goodIn_app (goodIn_of _ (by decide +kernel)) ggX7_pass_X7_write
set_option maxRecDepth 20000 in
theorem ggX7_pass_X7_readExactly : GoodIn wsX7_pass wsX7_readExactly := goodIn_r _ [63, 7, 8, 64, 65, 66, 67, 9, 10, 11, 12, 13, 14, 15, 16, 17, 18, 68, 69, 70, 27, 71, 72, 20, 21, 22, 23, 73, 74, 75, 76, 42, 43, 44, 45, 46, 47, 77, 78, 79, 51, 80, 81, 82, 83, 84, 85, 86, 87, 88, 89, 90, 91, 92, 93, 94, 95, 96, 36, 37, 38, 97, 98, 99, 100, 30, 31, 32, 101, 102, 103, 104, 105, 106, 107, 108, 109, 110, 111, 112, 113, 114] (by decide +kernel) (by decide +kernel)
set_option maxRecDepth 20000 in
theorem gX7_pass_X7_readExactly : GoodIn wsX7_pass (wsV RX7 69 RX7 yX7_readExactly wsX7_readExactly) := goodIn_app (goodIn_of _ (by decide +kernel)) ggX7_pass_X7_readExactly
set_option maxRecDepth 20000 in
theorem ggX7_pass_X5_length : GoodIn wsX7_pass wsX5_length := goodIn_r _ [18, 14, 107, 108] (by decide +kernel) (by decide +kernel)
set_option maxRecDepth 20000 in
theorem gX7_pass_X5_length : GoodIn wsX7_pass (wsV RX7 31 RX5 yX5_length wsX5_length) := goodIn_app (goodIn_of _ (by decide +kernel)) ggX7_pass_X5_length
theorem dX7_pass_0 : decode cX7_pass 0 = .ok (.aload_n 0, 1) := by decide +kernel
theorem dX7_pass_1 : decode cX7_pass 1 = .ok (.iload_n 1, 1) := by decide +kernel
theorem dX7_pass_2 : decode cX7_pass 2 = .ok (.aload_n 3, 1) := by decide +kernel
theorem dX7_pass_3 : decode cX7_pass 3 = .ok (.invokevirtual 65, 3) := by decide +kernel
theorem dX7_pass_6 : decode cX7_pass 6 = .ok (.ifCond .eq 34, 3) := by decide +kernel
theorem dX7_pass_9 : decode cX7_pass 9 = .ok (.aload_n 0, 1) := by decide +kernel
theorem dX7_pass_10 : decode cX7_pass 10 = .ok (.iload_n 2, 1) := by decide +kernel
theorem dX7_pass_11 : decode cX7_pass 11 = .ok (.aload_n 0, 1) := by decide +kernel
theorem dX7_pass_12 : decode cX7_pass 12 = .ok (.getfield 14, 3) := by decide +kernel
theorem dX7_pass_15 : decode cX7_pass 15 = .ok (.aload 4, 2) := by decide +kernel
theorem dX7_pass_17 : decode cX7_pass 17 = .ok (.invokevirtual 69, 3) := by decide +kernel
theorem dX7_pass_20 : decode cX7_pass 20 = .ok (.ifCond .eq 20, 3) := by decide +kernel
theorem dX7_pass_23 : decode cX7_pass 23 = .ok (.aload_n 0, 1) := by decide +kernel
theorem dX7_pass_24 : decode cX7_pass 24 = .ok (.getfield 14, 3) := by decide +kernel
theorem dX7_pass_27 : decode cX7_pass 27 = .ok (.invokevirtual 31, 3) := by decide +kernel
theorem dX7_pass_30 : decode cX7_pass 30 = .ok (.sipush 900, 3) := by decide +kernel
theorem dX7_pass_33 : decode cX7_pass 33 = .ok (.if_icmp .gt 7, 3) := by decide +kernel
theorem dX7_pass_36 : decode cX7_pass 36 = .ok (.iconst 1, 1) := by decide +kernel
theorem dX7_pass_37 : decode cX7_pass 37 = .ok (.goto 4, 3) := by decide +kernel
theorem dX7_pass_40 : decode cX7_pass 40 = .ok (.iconst 0, 1) := by decide +kernel
theorem dX7_pass_41 : decode cX7_pass 41 = .ok (.ireturn, 1) := by decide +kernel
set_option maxRecDepth 20000 in
theorem ggX7_passRoughly_X7_write : GoodIn wsX7_passRoughly wsX7_write := goodIn_r _ [12, 13, 1, 2, 14, 15, 16, 17, 18, 19, 20, 21, 22, 23, 24, 25, 26, 27, 28, 29, 30, 31, 32, 33, 34, 35, 36, 37, 38, 39, 40, 41, 42, 43, 44, 45, 46, 47, 48, 49, 50, 51, 52, 53, 54, 55, 56, 57, 58, 59, 60, 61, 62, 63, 64, 101, 102, 103, 104, 105, 106, 107, 108, 109, 110, 111] (by decide +kernel) (by decide +kernel)
set_option maxRecDepth 20000 in
theorem gX7_passRoughly_X7_write : GoodIn wsX7_passRoughly (wsV RX7 65 RX7 yX7_write wsX7_write) := goodIn_app (goodIn_of _ (by decide +kernel)) ggX7_passRoughly_X7_write
set_option maxRecDepth 20000 in
theorem ggX7_passRoughly_X5_length : GoodIn wsX7_passRoughly wsX5_length := goodIn_r _ [23, 19, 104, 105] (by decide +kernel) (by decide +kernel)
set_option maxRecDepth 20000 in
theorem gX7_passRoughly_X5_length : GoodIn wsX7_passRoughly (wsV RX7 31 RX5 yX5_length wsX5_length) := goodIn_app (goodIn_of _ (by decide +kernel)) ggX7_passRoughly_X5_length
set_option maxRecDepth 20000 in
theorem ggX7_passRoughly_X5_cut : GoodIn wsX7_passRoughly wsX5_cut := goodIn_r _ [18, 19, 104, 105] (by decide +kernel) (by decide +kernel)
set_option maxRecDepth 20000 in
theorem gX7_passRoughly_X5_cut : GoodIn wsX7_passRoughly (wsV RX7 28 RX5 yX5_cut wsX5_cut) := goodIn_app (goodIn_of _ (by decide +kernel)) ggX7_passRoughly_X5_cut
set_option maxRecDepth 20000 in
theorem ggX7_passRoughly_X2_decode : GoodIn wsX7_passRoughly wsX2_decode := goodIn_r _ [68, 69, 25, 26, 17, 27, 19, 28, 70, 71, 72, 32, 73, 47, 48, 49, 50, 51, 52, 74, 75, 76, 56, 77, 78, 79, 80, 81, 82, 83, 84, 85, 86, 87, 88, 89, 90, 91, 92, 93, 41, 42, 43, 104, 105, 106, 107, 108, 109, 110, 111] (by decide +kernel) (by decide +kernel)
set_option maxRecDepth 20000 in
theorem gX7_passRoughly_X2_decode : GoodIn wsX7_passRoughly (wsV RX7 45 RX2 yX2_decode wsX2_decode) := goodIn_app (goodIn_of _ (by decide +kernel)) ggX7_passRoughly_X2_decode
set_option maxRecDepth 20000 in
theorem ggX7_passRoughly_X2_letterIn : GoodIn wsX7_passRoughly wsX2_letterIn := goodIn_r _ [96] (by decide +kernel) (by decide +kernel)
set_option maxRecDepth 20000 in
theorem gX7_passRoughly_X2_letterIn : GoodIn wsX7_passRoughly (va_wsS RX7 49 yX2_letterIn wsX2_letterIn) := goodIn_app (goodIn_of _ (by decide +kernel)) ggX7_passRoughly_X2_letterIn
set_option maxRecDepth 20000 in
theorem ggX7_passRoughly_X5_add : GoodIn wsX7_passRoughly wsX5_add := goodIn_r _ [37, 19, 28, 104, 105] (by decide +kernel) (by decide +kernel)
set_option maxRecDepth 20000 in
theorem gX7_passRoughly_X5_add : GoodIn wsX7_passRoughly (wsV RX7 52 RX5 yX5_add wsX5_add) := goodIn_app (goodIn_of _ (by decide +kernel)) ggX7_passRoughly_X5_add
set_option maxRecDepth 20000 in
theorem ggX7_passRoughly_X2_bytesIn : GoodIn wsX7_passRoughly wsX2_bytesIn := goodIn_r _ [100] (by decide +kernel) (by decide +kernel)
set_option maxRecDepth 20000 in
theorem gX7_passRoughly_X2_bytesIn : GoodIn wsX7_passRoughly (va_wsS RX7 56 yX2_bytesIn wsX2_bytesIn) := goodIn_app (goodIn_of _ (by decide +kernel)) ggX7_passRoughly_X2_bytesIn
theorem dX7_passRoughly_0 : decode cX7_passRoughly 0 = .ok (.aload_n 0, 1) := by decide +kernel
theorem dX7_passRoughly_1 : decode cX7_passRoughly 1 = .ok (.iload_n 1, 1) := by decide +kernel
theorem dX7_passRoughly_2 : decode cX7_passRoughly 2 = .ok (.aload_n 3, 1) := by decide +kernel
theorem dX7_passRoughly_3 : decode cX7_passRoughly 3 = .ok (.invokevirtual 65, 3) := by decide +kernel
theorem dX7_passRoughly_6 : decode cX7_passRoughly 6 = .ok (.ifCond .eq 16, 3) := by decide +kernel
theorem dX7_passRoughly_9 : decode cX7_passRoughly 9 = .ok (.aload_n 0, 1) := by decide +kernel
theorem dX7_passRoughly_10 : decode cX7_passRoughly 10 = .ok (.getfield 14, 3) := by decide +kernel
theorem dX7_passRoughly_13 : decode cX7_passRoughly 13 = .ok (.invokevirtual 31, 3) := by decide +kernel
theorem dX7_passRoughly_16 : decode cX7_passRoughly 16 = .ok (.sipush 900, 3) := by decide +kernel
theorem dX7_passRoughly_19 : decode cX7_passRoughly 19 = .ok (.if_icmp .le 5, 3) := by decide +kernel
theorem dX7_passRoughly_22 : decode cX7_passRoughly 22 = .ok (.iconst (-1), 1) := by decide +kernel
theorem dX7_passRoughly_23 : decode cX7_passRoughly 23 = .ok (.ireturn, 1) := by decide +kernel
theorem dX7_passRoughly_24 : decode cX7_passRoughly 24 = .ok (.aload 4, 2) := by decide +kernel
theorem dX7_passRoughly_26 : decode cX7_passRoughly 26 = .ok (.iconst 0, 1) := by decide +kernel
theorem dX7_passRoughly_27 : decode cX7_passRoughly 27 = .ok (.invokevirtual 28, 3) := by decide +kernel
theorem dX7_passRoughly_30 : decode cX7_passRoughly 30 = .ok (.iconst 0, 1) := by decide +kernel
theorem dX7_passRoughly_31 : decode cX7_passRoughly 31 = .ok (.istore 5, 2) := by decide +kernel
theorem dX7_passRoughly_33 : decode cX7_passRoughly 33 = .ok (.iconst 0, 1) := by decide +kernel
theorem dX7_passRoughly_34 : decode cX7_passRoughly 34 = .ok (.istore 6, 2) := by decide +kernel
theorem dX7_passRoughly_36 : decode cX7_passRoughly 36 = .ok (.iload 6, 2) := by decide +kernel
theorem dX7_passRoughly_38 : decode cX7_passRoughly 38 = .ok (.aload_n 0, 1) := by decide +kernel
theorem dX7_passRoughly_39 : decode cX7_passRoughly 39 = .ok (.getfield 14, 3) := by decide +kernel
theorem dX7_passRoughly_42 : decode cX7_passRoughly 42 = .ok (.invokevirtual 31, 3) := by decide +kernel
theorem dX7_passRoughly_45 : decode cX7_passRoughly 45 = .ok (.if_icmp .ge 95, 3) := by decide +kernel
theorem dX7_passRoughly_48 : decode cX7_passRoughly 48 = .ok (.aload_n 0, 1) := by decide +kernel
theorem dX7_passRoughly_49 : decode cX7_passRoughly 49 = .ok (.getfield 20, 3) := by decide +kernel
theorem dX7_passRoughly_52 : decode cX7_passRoughly 52 = .ok (.iload_n 2, 1) := by decide +kernel
theorem dX7_passRoughly_53 : decode cX7_passRoughly 53 = .ok (.aload_n 0, 1) := by decide +kernel
theorem dX7_passRoughly_54 : decode cX7_passRoughly 54 = .ok (.getfield 14, 3) := by decide +kernel
theorem dX7_passRoughly_57 : decode cX7_passRoughly 57 = .ok (.iload 6, 2) := by decide +kernel
theorem dX7_passRoughly_59 : decode cX7_passRoughly 59 = .ok (.aload_n 0, 1) := by decide +kernel
theorem dX7_passRoughly_60 : decode cX7_passRoughly 60 = .ok (.getfield 14, 3) := by decide +kernel
theorem dX7_passRoughly_63 : decode cX7_passRoughly 63 = .ok (.invokevirtual 31, 3) := by decide +kernel
theorem dX7_passRoughly_66 : decode cX7_passRoughly 66 = .ok (.invokevirtual 45, 3) := by decide +kernel
theorem dX7_passRoughly_69 : decode cX7_passRoughly 69 = .ok (.istore 7, 2) := by decide +kernel
theorem dX7_passRoughly_71 : decode cX7_passRoughly 71 = .ok (.aload 4, 2) := by decide +kernel
theorem dX7_passRoughly_73 : decode cX7_passRoughly 73 = .ok (.iload 7, 2) := by decide +kernel
theorem dX7_passRoughly_75 : decode cX7_passRoughly 75 = .ok (.iconst (-1), 1) := by decide +kernel
theorem dX7_passRoughly_76 : decode cX7_passRoughly 76 = .ok (.if_icmp .ne 8, 3) := by decide +kernel
theorem dX7_passRoughly_79 : decode cX7_passRoughly 79 = .ok (.ldc 73, 2) := by decide +kernel
theorem dX7_passRoughly_81 : decode cX7_passRoughly 81 = .ok (.goto 8, 3) := by decide +kernel
theorem dX7_passRoughly_84 : decode cX7_passRoughly 84 = .ok (.iload 7, 2) := by decide +kernel
theorem dX7_passRoughly_86 : decode cX7_passRoughly 86 = .ok (.invokestatic 49, 3) := by decide +kernel
theorem dX7_passRoughly_89 : decode cX7_passRoughly 89 = .ok (.invokevirtual 52, 3) := by decide +kernel
theorem dX7_passRoughly_92 : decode cX7_passRoughly 92 = .ok (.ifCond .ne 5, 3) := by decide +kernel
theorem dX7_passRoughly_95 : decode cX7_passRoughly 95 = .ok (.iconst (-1), 1) := by decide +kernel
theorem dX7_passRoughly_96 : decode cX7_passRoughly 96 = .ok (.ireturn, 1) := by decide +kernel
theorem dX7_passRoughly_97 : decode cX7_passRoughly 97 = .ok (.iload 5, 2) := by decide +kernel
theorem dX7_passRoughly_99 : decode cX7_passRoughly 99 = .ok (.iload 7, 2) := by decide +kernel
theorem dX7_passRoughly_101 : decode cX7_passRoughly 101 = .ok (.iconst (-1), 1) := by decide +kernel
theorem dX7_passRoughly_102 : decode cX7_passRoughly 102 = .ok (.if_icmp .ne 7, 3) := by decide +kernel
theorem dX7_passRoughly_105 : decode cX7_passRoughly 105 = .ok (.iconst 1, 1) := by decide +kernel
theorem dX7_passRoughly_106 : decode cX7_passRoughly 106 = .ok (.goto 4, 3) := by decide +kernel
theorem dX7_passRoughly_109 : decode cX7_passRoughly 109 = .ok (.iconst 0, 1) := by decide +kernel
theorem dX7_passRoughly_110 : decode cX7_passRoughly 110 = .ok (.iadd, 1) := by decide +kernel
theorem dX7_passRoughly_111 : decode cX7_passRoughly 111 = .ok (.istore 5, 2) := by decide +kernel
theorem dX7_passRoughly_113 : decode cX7_passRoughly 113 = .ok (.iload 6, 2) := by decide +kernel
theorem dX7_passRoughly_115 : decode cX7_passRoughly 115 = .ok (.iload 7, 2) := by decide +kernel
theorem dX7_passRoughly_117 : decode cX7_passRoughly 117 = .ok (.iconst (-1), 1) := by decide +kernel
theorem dX7_passRoughly_118 : decode cX7_passRoughly 118 = .ok (.if_icmp .ne 7, 3) := by decide +kernel
theorem dX7_passRoughly_121 : decode cX7_passRoughly 121 = .ok (.iconst 1, 1) := by decide +kernel
theorem dX7_passRoughly_122 : decode cX7_passRoughly 122 = .ok (.goto 12, 3) := by decide +kernel
theorem dX7_passRoughly_125 : decode cX7_passRoughly 125 = .ok (.iconst 1, 1) := by decide +kernel
theorem dX7_passRoughly_126 : decode cX7_passRoughly 126 = .ok (.iload 7, 2) := by decide +kernel
theorem dX7_passRoughly_128 : decode cX7_passRoughly 128 = .ok (.invokestatic 56, 3) := by decide +kernel
theorem dX7_passRoughly_131 : decode cX7_passRoughly 131 = .ok (.invokestatic 59, 3) := by decide +kernel
theorem dX7_passRoughly_134 : decode cX7_passRoughly 134 = .ok (.iadd, 1) := by decide +kernel
theorem dX7_passRoughly_135 : decode cX7_passRoughly 135 = .ok (.istore 6, 2) := by decide +kernel
theorem dX7_passRoughly_137 : decode cX7_passRoughly 137 = .ok (.goto (-101), 3) := by decide +kernel
theorem dX7_passRoughly_140 : decode cX7_passRoughly 140 = .ok (.iload 5, 2) := by decide +kernel
theorem dX7_passRoughly_142 : decode cX7_passRoughly 142 = .ok (.ireturn, 1) := by decide +kernel
theorem dX8_init_0 : decode cX8_init 0 = .ok (.aload_n 0, 1) := by decide +kernel
theorem dX8_init_1 : decode cX8_init 1 = .ok (.invokespecial 3, 3) := by decide +kernel
theorem dX8_init_4 : decode cX8_init 4 = .ok (.aload_n 0, 1) := by decide +kernel
theorem dX8_init_5 : decode cX8_init 5 = .ok (.aload_n 1, 1) := by decide +kernel
theorem dX8_init_6 : decode cX8_init 6 = .ok (.putfield 9, 3) := by decide +kernel
theorem dX8_init_9 : decode cX8_init 9 = .ok (.aload_n 0, 1) := by decide +kernel
theorem dX8_init_10 : decode cX8_init 10 = .ok (.aload_n 2, 1) := by decide +kernel
theorem dX8_init_11 : decode cX8_init 11 = .ok (.putfield 15, 3) := by decide +kernel
theorem dX8_init_14 : decode cX8_init 14 = .ok (.aload_n 0, 1) := by decide +kernel
theorem dX8_init_15 : decode cX8_init 15 = .ok (.iconst 0, 1) := by decide +kernel
theorem dX8_init_16 : decode cX8_init 16 = .ok (.putfield 19, 3) := by decide +kernel
theorem dX8_init_19 : decode cX8_init 19 = .ok (.aload_n 0, 1) := by decide +kernel
theorem dX8_init_20 : decode cX8_init 20 = .ok (.bipush 32, 2) := by decide +kernel
theorem dX8_init_22 : decode cX8_init 22 = .ok (.putfield 23, 3) := by decide +kernel
theorem dX8_init_25 : decode cX8_init 25 = .ok (.aload_n 0, 1) := by decide +kernel
theorem dX8_init_26 : decode cX8_init 26 = .ok (.iconst 0, 1) := by decide +kernel
theorem dX8_init_27 : decode cX8_init 27 = .ok (.putfield 26, 3) := by decide +kernel
theorem dX8_init_30 : decode cX8_init 30 = .ok (.aload_n 0, 1) := by decide +kernel
theorem dX8_init_31 : decode cX8_init 31 = .ok (.iconst 0, 1) := by decide +kernel
theorem dX8_init_32 : decode cX8_init 32 = .ok (.putfield 29, 3) := by decide +kernel
theorem dX8_init_35 : decode cX8_init 35 = .ok (.return_, 1) := by decide +kernel
theorem dX8_reached_0 : decode cX8_reached 0 = .ok (.aload_n 0, 1) := by decide +kernel
theorem dX8_reached_1 : decode cX8_reached 1 = .ok (.getfield 19, 3) := by decide +kernel
theorem dX8_reached_4 : decode cX8_reached 4 = .ok (.ireturn, 1) := by decide +kernel
theorem dX8_letters_0 : decode cX8_letters 0 = .ok (.aload_n 0, 1) := by decide +kernel
theorem dX8_letters_1 : decode cX8_letters 1 = .ok (.getfield 29, 3) := by decide +kernel
theorem dX8_letters_4 : decode cX8_letters 4 = .ok (.ireturn, 1) := by decide +kernel
theorem dX8_begin_0 : decode cX8_begin 0 = .ok (.aload_n 0, 1) := by decide +kernel
theorem dX8_begin_1 : decode cX8_begin 1 = .ok (.iconst 0, 1) := by decide +kernel
theorem dX8_begin_2 : decode cX8_begin 2 = .ok (.putfield 19, 3) := by decide +kernel
theorem dX8_begin_5 : decode cX8_begin 5 = .ok (.aload_n 0, 1) := by decide +kernel
theorem dX8_begin_6 : decode cX8_begin 6 = .ok (.bipush 32, 2) := by decide +kernel
theorem dX8_begin_8 : decode cX8_begin 8 = .ok (.putfield 23, 3) := by decide +kernel
theorem dX8_begin_11 : decode cX8_begin 11 = .ok (.aload_n 0, 1) := by decide +kernel
theorem dX8_begin_12 : decode cX8_begin 12 = .ok (.iconst 0, 1) := by decide +kernel
theorem dX8_begin_13 : decode cX8_begin 13 = .ok (.putfield 26, 3) := by decide +kernel
theorem dX8_begin_16 : decode cX8_begin 16 = .ok (.aload_n 0, 1) := by decide +kernel
theorem dX8_begin_17 : decode cX8_begin 17 = .ok (.iconst 0, 1) := by decide +kernel
theorem dX8_begin_18 : decode cX8_begin 18 = .ok (.putfield 29, 3) := by decide +kernel
theorem dX8_begin_21 : decode cX8_begin 21 = .ok (.return_, 1) := by decide +kernel
theorem dX8_takeAll_0 : decode cX8_takeAll 0 = .ok (.aload_n 0, 1) := by decide +kernel
theorem dX8_takeAll_1 : decode cX8_takeAll 1 = .ok (.aload_n 1, 1) := by decide +kernel
theorem dX8_takeAll_2 : decode cX8_takeAll 2 = .ok (.getfield 19, 3) := by decide +kernel
theorem dX8_takeAll_5 : decode cX8_takeAll 5 = .ok (.putfield 19, 3) := by decide +kernel
theorem dX8_takeAll_8 : decode cX8_takeAll 8 = .ok (.aload_n 0, 1) := by decide +kernel
theorem dX8_takeAll_9 : decode cX8_takeAll 9 = .ok (.aload_n 1, 1) := by decide +kernel
theorem dX8_takeAll_10 : decode cX8_takeAll 10 = .ok (.getfield 23, 3) := by decide +kernel
theorem dX8_takeAll_13 : decode cX8_takeAll 13 = .ok (.putfield 23, 3) := by decide +kernel
theorem dX8_takeAll_16 : decode cX8_takeAll 16 = .ok (.aload_n 0, 1) := by decide +kernel
theorem dX8_takeAll_17 : decode cX8_takeAll 17 = .ok (.aload_n 1, 1) := by decide +kernel
theorem dX8_takeAll_18 : decode cX8_takeAll 18 = .ok (.getfield 26, 3) := by decide +kernel
theorem dX8_takeAll_21 : decode cX8_takeAll 21 = .ok (.putfield 26, 3) := by decide +kernel
theorem dX8_takeAll_24 : decode cX8_takeAll 24 = .ok (.aload_n 0, 1) := by decide +kernel
theorem dX8_takeAll_25 : decode cX8_takeAll 25 = .ok (.aload_n 1, 1) := by decide +kernel
theorem dX8_takeAll_26 : decode cX8_takeAll 26 = .ok (.getfield 29, 3) := by decide +kernel
theorem dX8_takeAll_29 : decode cX8_takeAll 29 = .ok (.putfield 29, 3) := by decide +kernel
theorem dX8_takeAll_32 : decode cX8_takeAll 32 = .ok (.return_, 1) := by decide +kernel
set_option maxRecDepth 20000 in
theorem ggX8_step_X2_decode : GoodIn wsX8_step wsX2_decode := goodIn_r _ [15, 16, 17, 18, 19, 20, 21, 22, 23, 24, 25, 14, 26, 27, 28, 29, 30, 31, 32, 33, 34, 35, 36, 37, 38, 39, 40, 41, 42, 43, 44, 45, 46, 47, 48, 49, 50, 51, 52, 53, 54, 55, 56, 91, 92, 93, 94, 95, 96, 97, 98] (by decide +kernel) (by decide +kernel)
set_option maxRecDepth 20000 in
theorem gX8_step_X2_decode : GoodIn wsX8_step (wsV RX8 32 RX2 yX2_decode wsX2_decode) := goodIn_app (goodIn_of _ (by decide +kernel)) ggX8_step_X2_decode
set_option maxRecDepth 20000 in
theorem ggX8_step_X2_letterIn : GoodIn wsX8_step wsX2_letterIn := goodIn_r _ [59] (by decide +kernel) (by decide +kernel)
set_option maxRecDepth 20000 in
theorem gX8_step_X2_letterIn : GoodIn wsX8_step (va_wsS RX8 38 yX2_letterIn wsX2_letterIn) := goodIn_app (goodIn_of _ (by decide +kernel)) ggX8_step_X2_letterIn
set_option maxRecDepth 20000 in
theorem ggX8_step_X3_of : GoodIn wsX8_step wsX3_of := goodIn_r _ [64, 65, 66, 67, 68, 69, 63, 70, 71, 72, 73, 74, 75, 76, 77, 78, 79, 80, 81, 99, 100, 101] (by decide +kernel) (by decide +kernel)
set_option maxRecDepth 20000 in
theorem gX8_step_X3_of : GoodIn wsX8_step (wsV RX8 42 RX3 yX3_of wsX3_of) := goodIn_app (goodIn_of _ (by decide +kernel)) ggX8_step_X3_of
set_option maxRecDepth 20000 in
theorem ggX8_step_X2_bytesIn : GoodIn wsX8_step wsX2_bytesIn := goodIn_r _ [84] (by decide +kernel) (by decide +kernel)
set_option maxRecDepth 20000 in
theorem gX8_step_X2_bytesIn : GoodIn wsX8_step (va_wsS RX8 48 yX2_bytesIn wsX2_bytesIn) := goodIn_app (goodIn_of _ (by decide +kernel)) ggX8_step_X2_bytesIn
theorem dX8_step_0 : decode cX8_step 0 = .ok (.aload_n 0, 1) := by decide +kernel
theorem dX8_step_1 : decode cX8_step 1 = .ok (.getfield 9, 3) := by decide +kernel
theorem dX8_step_4 : decode cX8_step 4 = .ok (.iload_n 1, 1) := by decide +kernel
theorem dX8_step_5 : decode cX8_step 5 = .ok (.aload_n 2, 1) := by decide +kernel
theorem dX8_step_6 : decode cX8_step 6 = .ok (.aload_n 0, 1) := by decide +kernel
theorem dX8_step_7 : decode cX8_step 7 = .ok (.getfield 19, 3) := by decide +kernel
theorem dX8_step_10 : decode cX8_step 10 = .ok (.iload_n 3, 1) := by decide +kernel
theorem dX8_step_11 : decode cX8_step 11 = .ok (.invokevirtual 32, 3) := by decide +kernel
theorem dX8_step_14 : decode cX8_step 14 = .ok (.istore 4, 2) := by decide +kernel
theorem dX8_step_16 : decode cX8_step 16 = .ok (.iload 4, 2) := by decide +kernel
theorem dX8_step_18 : decode cX8_step 18 = .ok (.iconst (-1), 1) := by decide +kernel
theorem dX8_step_19 : decode cX8_step 19 = .ok (.if_icmp .ne 5, 3) := by decide +kernel
theorem dX8_step_22 : decode cX8_step 22 = .ok (.iconst 0, 1) := by decide +kernel
theorem dX8_step_23 : decode cX8_step 23 = .ok (.ireturn, 1) := by decide +kernel
theorem dX8_step_24 : decode cX8_step 24 = .ok (.iload 4, 2) := by decide +kernel
theorem dX8_step_26 : decode cX8_step 26 = .ok (.invokestatic 38, 3) := by decide +kernel
theorem dX8_step_29 : decode cX8_step 29 = .ok (.istore 5, 2) := by decide +kernel
theorem dX8_step_31 : decode cX8_step 31 = .ok (.aload_n 0, 1) := by decide +kernel
theorem dX8_step_32 : decode cX8_step 32 = .ok (.dup, 1) := by decide +kernel
theorem dX8_step_33 : decode cX8_step 33 = .ok (.getfield 26, 3) := by decide +kernel
theorem dX8_step_36 : decode cX8_step 36 = .ok (.aload_n 0, 1) := by decide +kernel
theorem dX8_step_37 : decode cX8_step 37 = .ok (.getfield 15, 3) := by decide +kernel
theorem dX8_step_40 : decode cX8_step 40 = .ok (.aload_n 0, 1) := by decide +kernel
theorem dX8_step_41 : decode cX8_step 41 = .ok (.getfield 23, 3) := by decide +kernel
theorem dX8_step_44 : decode cX8_step 44 = .ok (.iload 5, 2) := by decide +kernel
theorem dX8_step_46 : decode cX8_step 46 = .ok (.invokevirtual 42, 3) := by decide +kernel
theorem dX8_step_49 : decode cX8_step 49 = .ok (.iadd, 1) := by decide +kernel
theorem dX8_step_50 : decode cX8_step 50 = .ok (.putfield 26, 3) := by decide +kernel
theorem dX8_step_53 : decode cX8_step 53 = .ok (.aload_n 0, 1) := by decide +kernel
theorem dX8_step_54 : decode cX8_step 54 = .ok (.iload 5, 2) := by decide +kernel
theorem dX8_step_56 : decode cX8_step 56 = .ok (.putfield 23, 3) := by decide +kernel
theorem dX8_step_59 : decode cX8_step 59 = .ok (.aload_n 0, 1) := by decide +kernel
theorem dX8_step_60 : decode cX8_step 60 = .ok (.dup, 1) := by decide +kernel
theorem dX8_step_61 : decode cX8_step 61 = .ok (.getfield 29, 3) := by decide +kernel
theorem dX8_step_64 : decode cX8_step 64 = .ok (.iconst 1, 1) := by decide +kernel
theorem dX8_step_65 : decode cX8_step 65 = .ok (.iadd, 1) := by decide +kernel
theorem dX8_step_66 : decode cX8_step 66 = .ok (.putfield 29, 3) := by decide +kernel
theorem dX8_step_69 : decode cX8_step 69 = .ok (.aload_n 0, 1) := by decide +kernel
theorem dX8_step_70 : decode cX8_step 70 = .ok (.dup, 1) := by decide +kernel
theorem dX8_step_71 : decode cX8_step 71 = .ok (.getfield 19, 3) := by decide +kernel
theorem dX8_step_74 : decode cX8_step 74 = .ok (.iconst 1, 1) := by decide +kernel
theorem dX8_step_75 : decode cX8_step 75 = .ok (.iload 4, 2) := by decide +kernel
theorem dX8_step_77 : decode cX8_step 77 = .ok (.invokestatic 48, 3) := by decide +kernel
theorem dX8_step_80 : decode cX8_step 80 = .ok (.invokestatic 51, 3) := by decide +kernel
theorem dX8_step_83 : decode cX8_step 83 = .ok (.iadd, 1) := by decide +kernel
theorem dX8_step_84 : decode cX8_step 84 = .ok (.putfield 19, 3) := by decide +kernel
theorem dX8_step_87 : decode cX8_step 87 = .ok (.iconst 1, 1) := by decide +kernel
theorem dX8_step_88 : decode cX8_step 88 = .ok (.ireturn, 1) := by decide +kernel
set_option maxRecDepth 20000 in
theorem ggX8_goOn_X8_step : GoodIn wsX8_goOn wsX8_step := goodIn_r _ [6, 7, 1, 8, 9, 10, 11, 12, 13, 14, 15, 16, 17, 18, 19, 20, 21, 22, 23, 24, 25, 26, 27, 28, 29, 30, 31, 32, 33, 34, 35, 36, 37, 38, 39, 40, 41, 42, 43, 44, 45, 46, 47, 48, 49, 50, 51, 52, 53, 54, 55, 56, 57, 58, 59, 60, 61, 62, 63, 64, 65, 66, 67, 68, 69, 70, 71, 72, 73, 74, 75, 76, 77, 78, 79, 80, 81, 82, 83, 84, 85, 86, 87, 88, 89, 90, 91, 92, 93, 94, 95, 96, 97, 98, 99, 100, 101, 102, 103, 104, 105, 106] (by decide +kernel) (by decide +kernel)
set_option maxRecDepth 20000 in
theorem gX8_goOn_X8_step : GoodIn wsX8_goOn (wsV RX8 56 RX8 yX8_step wsX8_step) := goodIn_app (goodIn_of _ (by decide +kernel)) ggX8_goOn_X8_step
theorem dX8_goOn_0 : decode cX8_goOn 0 = .ok (.iload_n 3, 1) := by decide +kernel
theorem dX8_goOn_1 : decode cX8_goOn 1 = .ok (.aload_n 0, 1) := by decide +kernel
theorem dX8_goOn_2 : decode cX8_goOn 2 = .ok (.getfield 19, 3) := by decide +kernel
theorem dX8_goOn_5 : decode cX8_goOn 5 = .ok (.isub, 1) := by decide +kernel
theorem dX8_goOn_6 : decode cX8_goOn 6 = .ok (.istore 4, 2) := by decide +kernel
theorem dX8_goOn_8 : decode cX8_goOn 8 = .ok (.iconst 0, 1) := by decide +kernel
theorem dX8_goOn_9 : decode cX8_goOn 9 = .ok (.istore 5, 2) := by decide +kernel
theorem dX8_goOn_11 : decode cX8_goOn 11 = .ok (.iload 5, 2) := by decide +kernel
theorem dX8_goOn_13 : decode cX8_goOn 13 = .ok (.iload 4, 2) := by decide +kernel
theorem dX8_goOn_15 : decode cX8_goOn 15 = .ok (.if_icmp .ge 20, 3) := by decide +kernel
theorem dX8_goOn_18 : decode cX8_goOn 18 = .ok (.aload_n 0, 1) := by decide +kernel
theorem dX8_goOn_19 : decode cX8_goOn 19 = .ok (.iload_n 1, 1) := by decide +kernel
theorem dX8_goOn_20 : decode cX8_goOn 20 = .ok (.aload_n 2, 1) := by decide +kernel
theorem dX8_goOn_21 : decode cX8_goOn 21 = .ok (.iload_n 3, 1) := by decide +kernel
theorem dX8_goOn_22 : decode cX8_goOn 22 = .ok (.invokevirtual 56, 3) := by decide +kernel
theorem dX8_goOn_25 : decode cX8_goOn 25 = .ok (.ifCond .ne 4, 3) := by decide +kernel
theorem dX8_goOn_28 : decode cX8_goOn 28 = .ok (.return_, 1) := by decide +kernel
theorem dX8_goOn_29 : decode cX8_goOn 29 = .ok (.iinc 5 1, 3) := by decide +kernel
theorem dX8_goOn_32 : decode cX8_goOn 32 = .ok (.goto (-21), 3) := by decide +kernel
theorem dX8_goOn_35 : decode cX8_goOn 35 = .ok (.return_, 1) := by decide +kernel
set_option maxRecDepth 20000 in
theorem ggX8_sumWith_X3_of : GoodIn wsX8_sumWith wsX3_of := goodIn_r _ [8, 9, 10, 11, 12, 13, 7, 14, 15, 16, 17, 18, 19, 20, 21, 22, 23, 24, 25, 32, 33, 34] (by decide +kernel) (by decide +kernel)
set_option maxRecDepth 20000 in
theorem gX8_sumWith_X3_of : GoodIn wsX8_sumWith (wsV RX8 42 RX3 yX3_of wsX3_of) := goodIn_app (goodIn_of _ (by decide +kernel)) ggX8_sumWith_X3_of
theorem dX8_sumWith_0 : decode cX8_sumWith 0 = .ok (.aload_n 0, 1) := by decide +kernel
theorem dX8_sumWith_1 : decode cX8_sumWith 1 = .ok (.getfield 26, 3) := by decide +kernel
theorem dX8_sumWith_4 : decode cX8_sumWith 4 = .ok (.aload_n 0, 1) := by decide +kernel
theorem dX8_sumWith_5 : decode cX8_sumWith 5 = .ok (.getfield 15, 3) := by decide +kernel
theorem dX8_sumWith_8 : decode cX8_sumWith 8 = .ok (.aload_n 0, 1) := by decide +kernel
theorem dX8_sumWith_9 : decode cX8_sumWith 9 = .ok (.getfield 23, 3) := by decide +kernel
theorem dX8_sumWith_12 : decode cX8_sumWith 12 = .ok (.iload_n 1, 1) := by decide +kernel
theorem dX8_sumWith_13 : decode cX8_sumWith 13 = .ok (.invokevirtual 42, 3) := by decide +kernel
theorem dX8_sumWith_16 : decode cX8_sumWith 16 = .ok (.iadd, 1) := by decide +kernel
theorem dX8_sumWith_17 : decode cX8_sumWith 17 = .ok (.ireturn, 1) := by decide +kernel
set_option maxRecDepth 20000 in
theorem ggX10_init_J7_fill_53178 : GoodIn wsX10_init wsJ7_fill_53178 := goodIn_r _ [12] (by decide +kernel) (by decide +kernel)
set_option maxRecDepth 20000 in
theorem gX10_init_J7_fill_53178 : GoodIn wsX10_init (va_wsS RX10 21 yJ7_fill_53178 wsJ7_fill_53178) := goodIn_app (goodIn_of _ (by decide +kernel)) ggX10_init_J7_fill_53178
theorem dX10_init_0 : decode cX10_init 0 = .ok (.aload_n 0, 1) := by decide +kernel
theorem dX10_init_1 : decode cX10_init 1 = .ok (.invokespecial 3, 3) := by decide +kernel
theorem dX10_init_4 : decode cX10_init 4 = .ok (.aload_n 0, 1) := by decide +kernel
theorem dX10_init_5 : decode cX10_init 5 = .ok (.sipush 256, 3) := by decide +kernel
theorem dX10_init_8 : decode cX10_init 8 = .ok (.newarray .int, 2) := by decide +kernel
theorem dX10_init_10 : decode cX10_init 10 = .ok (.putfield 9, 3) := by decide +kernel
theorem dX10_init_13 : decode cX10_init 13 = .ok (.aload_n 0, 1) := by decide +kernel
theorem dX10_init_14 : decode cX10_init 14 = .ok (.sipush 512, 3) := by decide +kernel
theorem dX10_init_17 : decode cX10_init 17 = .ok (.newarray .int, 2) := by decide +kernel
theorem dX10_init_19 : decode cX10_init 19 = .ok (.putfield 15, 3) := by decide +kernel
theorem dX10_init_22 : decode cX10_init 22 = .ok (.aload_n 0, 1) := by decide +kernel
theorem dX10_init_23 : decode cX10_init 23 = .ok (.sipush 512, 3) := by decide +kernel
theorem dX10_init_26 : decode cX10_init 26 = .ok (.newarray .int, 2) := by decide +kernel
theorem dX10_init_28 : decode cX10_init 28 = .ok (.putfield 18, 3) := by decide +kernel
theorem dX10_init_31 : decode cX10_init 31 = .ok (.aload_n 0, 1) := by decide +kernel
theorem dX10_init_32 : decode cX10_init 32 = .ok (.getfield 9, 3) := by decide +kernel
theorem dX10_init_35 : decode cX10_init 35 = .ok (.iconst (-1), 1) := by decide +kernel
theorem dX10_init_36 : decode cX10_init 36 = .ok (.invokestatic 21, 3) := by decide +kernel
theorem dX10_init_39 : decode cX10_init 39 = .ok (.aload_n 0, 1) := by decide +kernel
theorem dX10_init_40 : decode cX10_init 40 = .ok (.getfield 18, 3) := by decide +kernel
theorem dX10_init_43 : decode cX10_init 43 = .ok (.iconst (-1), 1) := by decide +kernel
theorem dX10_init_44 : decode cX10_init 44 = .ok (.invokestatic 21, 3) := by decide +kernel
theorem dX10_init_47 : decode cX10_init 47 = .ok (.aload_n 0, 1) := by decide +kernel
theorem dX10_init_48 : decode cX10_init 48 = .ok (.iconst 0, 1) := by decide +kernel
theorem dX10_init_49 : decode cX10_init 49 = .ok (.putfield 27, 3) := by decide +kernel
theorem dX10_init_52 : decode cX10_init 52 = .ok (.return_, 1) := by decide +kernel
theorem dX10_length_0 : decode cX10_length 0 = .ok (.aload_n 0, 1) := by decide +kernel
theorem dX10_length_1 : decode cX10_length 1 = .ok (.getfield 27, 3) := by decide +kernel
theorem dX10_length_4 : decode cX10_length 4 = .ok (.ireturn, 1) := by decide +kernel
set_option maxRecDepth 20000 in
theorem ggX10_empty_J7_fill_53178 : GoodIn wsX10_empty wsJ7_fill_53178 := goodIn_r _ [7] (by decide +kernel) (by decide +kernel)
set_option maxRecDepth 20000 in
theorem gX10_empty_J7_fill_53178 : GoodIn wsX10_empty (va_wsS RX10 21 yJ7_fill_53178 wsJ7_fill_53178) := goodIn_app (goodIn_of _ (by decide +kernel)) ggX10_empty_J7_fill_53178
theorem dX10_empty_0 : decode cX10_empty 0 = .ok (.aload_n 0, 1) := by decide +kernel
theorem dX10_empty_1 : decode cX10_empty 1 = .ok (.getfield 9, 3) := by decide +kernel
theorem dX10_empty_4 : decode cX10_empty 4 = .ok (.iconst (-1), 1) := by decide +kernel
theorem dX10_empty_5 : decode cX10_empty 5 = .ok (.invokestatic 21, 3) := by decide +kernel
theorem dX10_empty_8 : decode cX10_empty 8 = .ok (.aload_n 0, 1) := by decide +kernel
theorem dX10_empty_9 : decode cX10_empty 9 = .ok (.getfield 18, 3) := by decide +kernel
theorem dX10_empty_12 : decode cX10_empty 12 = .ok (.iconst (-1), 1) := by decide +kernel
theorem dX10_empty_13 : decode cX10_empty 13 = .ok (.invokestatic 21, 3) := by decide +kernel
theorem dX10_empty_16 : decode cX10_empty 16 = .ok (.aload_n 0, 1) := by decide +kernel
theorem dX10_empty_17 : decode cX10_empty 17 = .ok (.iconst 0, 1) := by decide +kernel
theorem dX10_empty_18 : decode cX10_empty 18 = .ok (.putfield 27, 3) := by decide +kernel
theorem dX10_empty_21 : decode cX10_empty 21 = .ok (.return_, 1) := by decide +kernel
theorem dX10_letterFor_0 : decode cX10_letterFor 0 = .ok (.iload_n 1, 1) := by decide +kernel
theorem dX10_letterFor_1 : decode cX10_letterFor 1 = .ok (.ifCond .lt 19, 3) := by decide +kernel
theorem dX10_letterFor_4 : decode cX10_letterFor 4 = .ok (.iload_n 1, 1) := by decide +kernel
theorem dX10_letterFor_5 : decode cX10_letterFor 5 = .ok (.sipush 256, 3) := by decide +kernel
theorem dX10_letterFor_8 : decode cX10_letterFor 8 = .ok (.if_icmp .ge 12, 3) := by decide +kernel
theorem dX10_letterFor_11 : decode cX10_letterFor 11 = .ok (.aload_n 0, 1) := by decide +kernel
theorem dX10_letterFor_12 : decode cX10_letterFor 12 = .ok (.getfield 9, 3) := by decide +kernel
theorem dX10_letterFor_15 : decode cX10_letterFor 15 = .ok (.iload_n 1, 1) := by decide +kernel
theorem dX10_letterFor_16 : decode cX10_letterFor 16 = .ok (.iaload, 1) := by decide +kernel
theorem dX10_letterFor_17 : decode cX10_letterFor 17 = .ok (.goto 4, 3) := by decide +kernel
theorem dX10_letterFor_20 : decode cX10_letterFor 20 = .ok (.iconst (-1), 1) := by decide +kernel
theorem dX10_letterFor_21 : decode cX10_letterFor 21 = .ok (.ireturn, 1) := by decide +kernel
set_option maxRecDepth 20000 in
theorem ggX10_byteFor_X10_placeFor : GoodIn wsX10_byteFor wsX10_placeFor := goodIn_r _ [6, 7, 1, 8, 9, 10, 11, 12] (by decide +kernel) (by decide +kernel)
set_option maxRecDepth 20000 in
theorem gX10_byteFor_X10_placeFor : GoodIn wsX10_byteFor (wsV RX10 31 RX10 yX10_placeFor wsX10_placeFor) := goodIn_app (goodIn_of _ (by decide +kernel)) ggX10_byteFor_X10_placeFor
theorem dX10_byteFor_0 : decode cX10_byteFor 0 = .ok (.aload_n 0, 1) := by decide +kernel
theorem dX10_byteFor_1 : decode cX10_byteFor 1 = .ok (.iload_n 1, 1) := by decide +kernel
theorem dX10_byteFor_2 : decode cX10_byteFor 2 = .ok (.invokevirtual 31, 3) := by decide +kernel
theorem dX10_byteFor_5 : decode cX10_byteFor 5 = .ok (.istore_n 2, 1) := by decide +kernel
theorem dX10_byteFor_6 : decode cX10_byteFor 6 = .ok (.iload_n 2, 1) := by decide +kernel
theorem dX10_byteFor_7 : decode cX10_byteFor 7 = .ok (.iconst (-1), 1) := by decide +kernel
theorem dX10_byteFor_8 : decode cX10_byteFor 8 = .ok (.if_icmp .ne 7, 3) := by decide +kernel
theorem dX10_byteFor_11 : decode cX10_byteFor 11 = .ok (.iconst (-1), 1) := by decide +kernel
theorem dX10_byteFor_12 : decode cX10_byteFor 12 = .ok (.goto 9, 3) := by decide +kernel
theorem dX10_byteFor_15 : decode cX10_byteFor 15 = .ok (.aload_n 0, 1) := by decide +kernel
theorem dX10_byteFor_16 : decode cX10_byteFor 16 = .ok (.getfield 18, 3) := by decide +kernel
theorem dX10_byteFor_19 : decode cX10_byteFor 19 = .ok (.iload_n 2, 1) := by decide +kernel
theorem dX10_byteFor_20 : decode cX10_byteFor 20 = .ok (.iaload, 1) := by decide +kernel
theorem dX10_byteFor_21 : decode cX10_byteFor 21 = .ok (.ireturn, 1) := by decide +kernel
set_option maxRecDepth 20000 in
theorem ggX10_canTake_X11_isLetter : GoodIn wsX10_canTake wsX11_isLetter := goodIn_r _ [3, 4, 5, 6] (by decide +kernel) (by decide +kernel)
set_option maxRecDepth 20000 in
theorem gX10_canTake_X11_isLetter_n35 : GoodIn wsX10_canTake (wsX11_isLetter) := ggX10_canTake_X11_isLetter
set_option maxRecDepth 20000 in
theorem ggX10_canTake_X10_letterFor : GoodIn wsX10_canTake wsX10_letterFor := goodIn_r _ [11, 12, 24, 25, 26, 27] (by decide +kernel) (by decide +kernel)
set_option maxRecDepth 20000 in
theorem gX10_canTake_X10_letterFor : GoodIn wsX10_canTake (wsV RX10 39 RX10 yX10_letterFor wsX10_letterFor) := goodIn_app (goodIn_of _ (by decide +kernel)) ggX10_canTake_X10_letterFor
set_option maxRecDepth 20000 in
theorem ggX10_canTake_X10_byteFor : GoodIn wsX10_canTake wsX10_byteFor := goodIn_r _ [16, 17, 18, 19, 20, 10, 21, 22, 23, 24, 25, 26, 27] (by decide +kernel) (by decide +kernel)
set_option maxRecDepth 20000 in
theorem gX10_canTake_X10_byteFor : GoodIn wsX10_canTake (wsV RX10 42 RX10 yX10_byteFor wsX10_byteFor) := goodIn_app (goodIn_of _ (by decide +kernel)) ggX10_canTake_X10_byteFor
theorem dX10_canTake_0 : decode cX10_canTake 0 = .ok (.iload_n 1, 1) := by decide +kernel
theorem dX10_canTake_1 : decode cX10_canTake 1 = .ok (.ifCond .lt 28, 3) := by decide +kernel
theorem dX10_canTake_4 : decode cX10_canTake 4 = .ok (.iload_n 1, 1) := by decide +kernel
theorem dX10_canTake_5 : decode cX10_canTake 5 = .ok (.sipush 256, 3) := by decide +kernel
theorem dX10_canTake_8 : decode cX10_canTake 8 = .ok (.if_icmp .ge 21, 3) := by decide +kernel
theorem dX10_canTake_11 : decode cX10_canTake 11 = .ok (.iload_n 2, 1) := by decide +kernel
theorem dX10_canTake_12 : decode cX10_canTake 12 = .ok (.iconst 1, 1) := by decide +kernel
theorem dX10_canTake_13 : decode cX10_canTake 13 = .ok (.if_icmp .lt 16, 3) := by decide +kernel
theorem dX10_canTake_16 : decode cX10_canTake 16 = .ok (.iload_n 2, 1) := by decide +kernel
theorem dX10_canTake_17 : decode cX10_canTake 17 = .ok (.sipush 256, 3) := by decide +kernel
theorem dX10_canTake_20 : decode cX10_canTake 20 = .ok (.iload_n 1, 1) := by decide +kernel
theorem dX10_canTake_21 : decode cX10_canTake 21 = .ok (.isub, 1) := by decide +kernel
theorem dX10_canTake_22 : decode cX10_canTake 22 = .ok (.if_icmp .gt 7, 3) := by decide +kernel
theorem dX10_canTake_25 : decode cX10_canTake 25 = .ok (.iconst 1, 1) := by decide +kernel
theorem dX10_canTake_26 : decode cX10_canTake 26 = .ok (.goto 4, 3) := by decide +kernel
theorem dX10_canTake_29 : decode cX10_canTake 29 = .ok (.iconst 0, 1) := by decide +kernel
theorem dX10_canTake_30 : decode cX10_canTake 30 = .ok (.istore 5, 2) := by decide +kernel
theorem dX10_canTake_32 : decode cX10_canTake 32 = .ok (.iload 5, 2) := by decide +kernel
theorem dX10_canTake_34 : decode cX10_canTake 34 = .ok (.ifCond .eq 26, 3) := by decide +kernel
theorem dX10_canTake_37 : decode cX10_canTake 37 = .ok (.iload 4, 2) := by decide +kernel
theorem dX10_canTake_39 : decode cX10_canTake 39 = .ok (.sipush (-255), 3) := by decide +kernel
theorem dX10_canTake_42 : decode cX10_canTake 42 = .ok (.if_icmp .lt 18, 3) := by decide +kernel
theorem dX10_canTake_45 : decode cX10_canTake 45 = .ok (.iload 4, 2) := by decide +kernel
theorem dX10_canTake_47 : decode cX10_canTake 47 = .ok (.sipush 255, 3) := by decide +kernel
theorem dX10_canTake_50 : decode cX10_canTake 50 = .ok (.if_icmp .gt 10, 3) := by decide +kernel
theorem dX10_canTake_53 : decode cX10_canTake 53 = .ok (.iload_n 3, 1) := by decide +kernel
theorem dX10_canTake_54 : decode cX10_canTake 54 = .ok (.invokestatic 35, 3) := by decide +kernel
theorem dX10_canTake_57 : decode cX10_canTake 57 = .ok (.ifCond .ne 5, 3) := by decide +kernel
theorem dX10_canTake_60 : decode cX10_canTake 60 = .ok (.iconst 0, 1) := by decide +kernel
theorem dX10_canTake_61 : decode cX10_canTake 61 = .ok (.ireturn, 1) := by decide +kernel
theorem dX10_canTake_62 : decode cX10_canTake 62 = .ok (.iload 4, 2) := by decide +kernel
theorem dX10_canTake_64 : decode cX10_canTake 64 = .ok (.ifCond .ne 10, 3) := by decide +kernel
theorem dX10_canTake_67 : decode cX10_canTake 67 = .ok (.iload_n 2, 1) := by decide +kernel
theorem dX10_canTake_68 : decode cX10_canTake 68 = .ok (.iconst 1, 1) := by decide +kernel
theorem dX10_canTake_69 : decode cX10_canTake 69 = .ok (.if_icmp .le 5, 3) := by decide +kernel
theorem dX10_canTake_72 : decode cX10_canTake 72 = .ok (.iconst 0, 1) := by decide +kernel
theorem dX10_canTake_73 : decode cX10_canTake 73 = .ok (.ireturn, 1) := by decide +kernel
theorem dX10_canTake_74 : decode cX10_canTake 74 = .ok (.iconst 0, 1) := by decide +kernel
theorem dX10_canTake_75 : decode cX10_canTake 75 = .ok (.istore 6, 2) := by decide +kernel
theorem dX10_canTake_77 : decode cX10_canTake 77 = .ok (.iload 6, 2) := by decide +kernel
theorem dX10_canTake_79 : decode cX10_canTake 79 = .ok (.iload_n 2, 1) := by decide +kernel
theorem dX10_canTake_80 : decode cX10_canTake 80 = .ok (.if_icmp .ge 50, 3) := by decide +kernel
theorem dX10_canTake_83 : decode cX10_canTake 83 = .ok (.iload_n 3, 1) := by decide +kernel
theorem dX10_canTake_84 : decode cX10_canTake 84 = .ok (.iload 6, 2) := by decide +kernel
theorem dX10_canTake_86 : decode cX10_canTake 86 = .ok (.iload 4, 2) := by decide +kernel
theorem dX10_canTake_88 : decode cX10_canTake 88 = .ok (.imul, 1) := by decide +kernel
theorem dX10_canTake_89 : decode cX10_canTake 89 = .ok (.iadd, 1) := by decide +kernel
theorem dX10_canTake_90 : decode cX10_canTake 90 = .ok (.istore 7, 2) := by decide +kernel
theorem dX10_canTake_92 : decode cX10_canTake 92 = .ok (.iload 7, 2) := by decide +kernel
theorem dX10_canTake_94 : decode cX10_canTake 94 = .ok (.invokestatic 35, 3) := by decide +kernel
theorem dX10_canTake_97 : decode cX10_canTake 97 = .ok (.ifCond .eq 25, 3) := by decide +kernel
theorem dX10_canTake_100 : decode cX10_canTake 100 = .ok (.aload_n 0, 1) := by decide +kernel
theorem dX10_canTake_101 : decode cX10_canTake 101 = .ok (.iload_n 1, 1) := by decide +kernel
theorem dX10_canTake_102 : decode cX10_canTake 102 = .ok (.iload 6, 2) := by decide +kernel
theorem dX10_canTake_104 : decode cX10_canTake 104 = .ok (.iadd, 1) := by decide +kernel
theorem dX10_canTake_105 : decode cX10_canTake 105 = .ok (.invokevirtual 39, 3) := by decide +kernel
theorem dX10_canTake_108 : decode cX10_canTake 108 = .ok (.iconst (-1), 1) := by decide +kernel
theorem dX10_canTake_109 : decode cX10_canTake 109 = .ok (.if_icmp .ne 13, 3) := by decide +kernel
theorem dX10_canTake_112 : decode cX10_canTake 112 = .ok (.aload_n 0, 1) := by decide +kernel
theorem dX10_canTake_113 : decode cX10_canTake 113 = .ok (.iload 7, 2) := by decide +kernel
theorem dX10_canTake_115 : decode cX10_canTake 115 = .ok (.invokevirtual 42, 3) := by decide +kernel
theorem dX10_canTake_118 : decode cX10_canTake 118 = .ok (.iconst (-1), 1) := by decide +kernel
theorem dX10_canTake_119 : decode cX10_canTake 119 = .ok (.if_icmp .eq 5, 3) := by decide +kernel
theorem dX10_canTake_122 : decode cX10_canTake 122 = .ok (.iconst 0, 1) := by decide +kernel
theorem dX10_canTake_123 : decode cX10_canTake 123 = .ok (.ireturn, 1) := by decide +kernel
theorem dX10_canTake_124 : decode cX10_canTake 124 = .ok (.iinc 6 1, 3) := by decide +kernel
theorem dX10_canTake_127 : decode cX10_canTake 127 = .ok (.goto (-50), 3) := by decide +kernel
theorem dX10_canTake_130 : decode cX10_canTake 130 = .ok (.iconst 1, 1) := by decide +kernel
theorem dX10_canTake_131 : decode cX10_canTake 131 = .ok (.ireturn, 1) := by decide +kernel
set_option maxRecDepth 20000 in
theorem ggX10_tell_X10_placeFor : GoodIn wsX10_tell wsX10_placeFor := goodIn_r _ [9, 10, 3, 2, 11, 12, 13, 14] (by decide +kernel) (by decide +kernel)
set_option maxRecDepth 20000 in
theorem gX10_tell_X10_placeFor : GoodIn wsX10_tell (wsV RX10 31 RX10 yX10_placeFor wsX10_placeFor) := goodIn_app (goodIn_of _ (by decide +kernel)) ggX10_tell_X10_placeFor
theorem dX10_tell_0 : decode cX10_tell 0 = .ok (.aload_n 0, 1) := by decide +kernel
theorem dX10_tell_1 : decode cX10_tell 1 = .ok (.iload_n 2, 1) := by decide +kernel
theorem dX10_tell_2 : decode cX10_tell 2 = .ok (.invokevirtual 31, 3) := by decide +kernel
theorem dX10_tell_5 : decode cX10_tell 5 = .ok (.istore_n 3, 1) := by decide +kernel
theorem dX10_tell_6 : decode cX10_tell 6 = .ok (.iload_n 3, 1) := by decide +kernel
theorem dX10_tell_7 : decode cX10_tell 7 = .ok (.iconst (-1), 1) := by decide +kernel
theorem dX10_tell_8 : decode cX10_tell 8 = .ok (.if_icmp .eq 14, 3) := by decide +kernel
theorem dX10_tell_11 : decode cX10_tell 11 = .ok (.iload_n 1, 1) := by decide +kernel
theorem dX10_tell_12 : decode cX10_tell 12 = .ok (.ifCond .lt 10, 3) := by decide +kernel
theorem dX10_tell_15 : decode cX10_tell 15 = .ok (.iload_n 1, 1) := by decide +kernel
theorem dX10_tell_16 : decode cX10_tell 16 = .ok (.sipush 256, 3) := by decide +kernel
theorem dX10_tell_19 : decode cX10_tell 19 = .ok (.if_icmp .lt 4, 3) := by decide +kernel
theorem dX10_tell_22 : decode cX10_tell 22 = .ok (.return_, 1) := by decide +kernel
theorem dX10_tell_23 : decode cX10_tell 23 = .ok (.aload_n 0, 1) := by decide +kernel
theorem dX10_tell_24 : decode cX10_tell 24 = .ok (.getfield 9, 3) := by decide +kernel
theorem dX10_tell_27 : decode cX10_tell 27 = .ok (.iload_n 1, 1) := by decide +kernel
theorem dX10_tell_28 : decode cX10_tell 28 = .ok (.iload_n 2, 1) := by decide +kernel
theorem dX10_tell_29 : decode cX10_tell 29 = .ok (.iastore, 1) := by decide +kernel
theorem dX10_tell_30 : decode cX10_tell 30 = .ok (.aload_n 0, 1) := by decide +kernel
theorem dX10_tell_31 : decode cX10_tell 31 = .ok (.getfield 15, 3) := by decide +kernel
theorem dX10_tell_34 : decode cX10_tell 34 = .ok (.iload_n 3, 1) := by decide +kernel
theorem dX10_tell_35 : decode cX10_tell 35 = .ok (.iload_n 2, 1) := by decide +kernel
theorem dX10_tell_36 : decode cX10_tell 36 = .ok (.iastore, 1) := by decide +kernel
theorem dX10_tell_37 : decode cX10_tell 37 = .ok (.aload_n 0, 1) := by decide +kernel
theorem dX10_tell_38 : decode cX10_tell 38 = .ok (.getfield 18, 3) := by decide +kernel
theorem dX10_tell_41 : decode cX10_tell 41 = .ok (.iload_n 3, 1) := by decide +kernel
theorem dX10_tell_42 : decode cX10_tell 42 = .ok (.iload_n 1, 1) := by decide +kernel
theorem dX10_tell_43 : decode cX10_tell 43 = .ok (.iastore, 1) := by decide +kernel
theorem dX10_tell_44 : decode cX10_tell 44 = .ok (.aload_n 0, 1) := by decide +kernel
theorem dX10_tell_45 : decode cX10_tell 45 = .ok (.dup, 1) := by decide +kernel
theorem dX10_tell_46 : decode cX10_tell 46 = .ok (.getfield 27, 3) := by decide +kernel
theorem dX10_tell_49 : decode cX10_tell 49 = .ok (.iconst 1, 1) := by decide +kernel
theorem dX10_tell_50 : decode cX10_tell 50 = .ok (.iadd, 1) := by decide +kernel
theorem dX10_tell_51 : decode cX10_tell 51 = .ok (.putfield 27, 3) := by decide +kernel
theorem dX10_tell_54 : decode cX10_tell 54 = .ok (.return_, 1) := by decide +kernel
theorem dX10_placeFor_0 : decode cX10_placeFor 0 = .ok (.iload_n 1, 1) := by decide +kernel
theorem dX10_placeFor_1 : decode cX10_placeFor 1 = .ok (.ldc 45, 2) := by decide +kernel
theorem dX10_placeFor_3 : decode cX10_placeFor 3 = .ok (.imul, 1) := by decide +kernel
theorem dX10_placeFor_4 : decode cX10_placeFor 4 = .ok (.bipush 23, 2) := by decide +kernel
theorem dX10_placeFor_6 : decode cX10_placeFor 6 = .ok (.iushr, 1) := by decide +kernel
theorem dX10_placeFor_7 : decode cX10_placeFor 7 = .ok (.istore_n 2, 1) := by decide +kernel
theorem dX10_placeFor_8 : decode cX10_placeFor 8 = .ok (.iconst 0, 1) := by decide +kernel
theorem dX10_placeFor_9 : decode cX10_placeFor 9 = .ok (.istore_n 3, 1) := by decide +kernel
theorem dX10_placeFor_10 : decode cX10_placeFor 10 = .ok (.iload_n 3, 1) := by decide +kernel
theorem dX10_placeFor_11 : decode cX10_placeFor 11 = .ok (.sipush 512, 3) := by decide +kernel
theorem dX10_placeFor_14 : decode cX10_placeFor 14 = .ok (.if_icmp .ge 43, 3) := by decide +kernel
theorem dX10_placeFor_17 : decode cX10_placeFor 17 = .ok (.iload_n 2, 1) := by decide +kernel
theorem dX10_placeFor_18 : decode cX10_placeFor 18 = .ok (.iload_n 3, 1) := by decide +kernel
theorem dX10_placeFor_19 : decode cX10_placeFor 19 = .ok (.iadd, 1) := by decide +kernel
theorem dX10_placeFor_20 : decode cX10_placeFor 20 = .ok (.sipush 511, 3) := by decide +kernel
theorem dX10_placeFor_23 : decode cX10_placeFor 23 = .ok (.iand, 1) := by decide +kernel
theorem dX10_placeFor_24 : decode cX10_placeFor 24 = .ok (.istore 4, 2) := by decide +kernel
theorem dX10_placeFor_26 : decode cX10_placeFor 26 = .ok (.aload_n 0, 1) := by decide +kernel
theorem dX10_placeFor_27 : decode cX10_placeFor 27 = .ok (.getfield 18, 3) := by decide +kernel
theorem dX10_placeFor_30 : decode cX10_placeFor 30 = .ok (.iload 4, 2) := by decide +kernel
theorem dX10_placeFor_32 : decode cX10_placeFor 32 = .ok (.iaload, 1) := by decide +kernel
theorem dX10_placeFor_33 : decode cX10_placeFor 33 = .ok (.iconst (-1), 1) := by decide +kernel
theorem dX10_placeFor_34 : decode cX10_placeFor 34 = .ok (.if_icmp .eq 14, 3) := by decide +kernel
theorem dX10_placeFor_37 : decode cX10_placeFor 37 = .ok (.aload_n 0, 1) := by decide +kernel
theorem dX10_placeFor_38 : decode cX10_placeFor 38 = .ok (.getfield 15, 3) := by decide +kernel
theorem dX10_placeFor_41 : decode cX10_placeFor 41 = .ok (.iload 4, 2) := by decide +kernel
theorem dX10_placeFor_43 : decode cX10_placeFor 43 = .ok (.iaload, 1) := by decide +kernel
theorem dX10_placeFor_44 : decode cX10_placeFor 44 = .ok (.iload_n 1, 1) := by decide +kernel
theorem dX10_placeFor_45 : decode cX10_placeFor 45 = .ok (.if_icmp .ne 6, 3) := by decide +kernel
theorem dX10_placeFor_48 : decode cX10_placeFor 48 = .ok (.iload 4, 2) := by decide +kernel
theorem dX10_placeFor_50 : decode cX10_placeFor 50 = .ok (.ireturn, 1) := by decide +kernel
theorem dX10_placeFor_51 : decode cX10_placeFor 51 = .ok (.iinc 3 1, 3) := by decide +kernel
theorem dX10_placeFor_54 : decode cX10_placeFor 54 = .ok (.goto (-44), 3) := by decide +kernel
theorem dX10_placeFor_57 : decode cX10_placeFor 57 = .ok (.iconst (-1), 1) := by decide +kernel
theorem dX10_placeFor_58 : decode cX10_placeFor 58 = .ok (.ireturn, 1) := by decide +kernel
theorem dJ9_max_7cf53_0 : decode cJ9_max_7cf53 0 = .ok (.iload_n 0, 1) := by decide +kernel
theorem dJ9_max_7cf53_1 : decode cJ9_max_7cf53 1 = .ok (.iload_n 1, 1) := by decide +kernel
theorem dJ9_max_7cf53_2 : decode cJ9_max_7cf53 2 = .ok (.if_icmp .lt 7, 3) := by decide +kernel
theorem dJ9_max_7cf53_5 : decode cJ9_max_7cf53 5 = .ok (.iload_n 0, 1) := by decide +kernel
theorem dJ9_max_7cf53_6 : decode cJ9_max_7cf53 6 = .ok (.goto 4, 3) := by decide +kernel
theorem dJ9_max_7cf53_9 : decode cJ9_max_7cf53 9 = .ok (.iload_n 1, 1) := by decide +kernel
theorem dJ9_max_7cf53_10 : decode cJ9_max_7cf53 10 = .ok (.ireturn, 1) := by decide +kernel
theorem dJ9_min_7cf53_0 : decode cJ9_min_7cf53 0 = .ok (.iload_n 0, 1) := by decide +kernel
theorem dJ9_min_7cf53_1 : decode cJ9_min_7cf53 1 = .ok (.iload_n 1, 1) := by decide +kernel
theorem dJ9_min_7cf53_2 : decode cJ9_min_7cf53 2 = .ok (.if_icmp .gt 7, 3) := by decide +kernel
theorem dJ9_min_7cf53_5 : decode cJ9_min_7cf53 5 = .ok (.iload_n 0, 1) := by decide +kernel
theorem dJ9_min_7cf53_6 : decode cJ9_min_7cf53 6 = .ok (.goto 4, 3) := by decide +kernel
theorem dJ9_min_7cf53_9 : decode cJ9_min_7cf53 9 = .ok (.iload_n 1, 1) := by decide +kernel
theorem dJ9_min_7cf53_10 : decode cJ9_min_7cf53 10 = .ok (.ireturn, 1) := by decide +kernel
theorem dJ7_fill_53178_0 : decode cJ7_fill_53178 0 = .ok (.iconst 0, 1) := by decide +kernel
theorem dJ7_fill_53178_1 : decode cJ7_fill_53178 1 = .ok (.istore_n 2, 1) := by decide +kernel
theorem dJ7_fill_53178_2 : decode cJ7_fill_53178 2 = .ok (.aload_n 0, 1) := by decide +kernel
theorem dJ7_fill_53178_3 : decode cJ7_fill_53178 3 = .ok (.arraylength, 1) := by decide +kernel
theorem dJ7_fill_53178_4 : decode cJ7_fill_53178 4 = .ok (.istore_n 3, 1) := by decide +kernel
theorem dJ7_fill_53178_5 : decode cJ7_fill_53178 5 = .ok (.iload_n 2, 1) := by decide +kernel
theorem dJ7_fill_53178_6 : decode cJ7_fill_53178 6 = .ok (.iload_n 3, 1) := by decide +kernel
theorem dJ7_fill_53178_7 : decode cJ7_fill_53178 7 = .ok (.if_icmp .ge 13, 3) := by decide +kernel
theorem dJ7_fill_53178_10 : decode cJ7_fill_53178 10 = .ok (.aload_n 0, 1) := by decide +kernel
theorem dJ7_fill_53178_11 : decode cJ7_fill_53178 11 = .ok (.iload_n 2, 1) := by decide +kernel
theorem dJ7_fill_53178_12 : decode cJ7_fill_53178 12 = .ok (.iload_n 1, 1) := by decide +kernel
theorem dJ7_fill_53178_13 : decode cJ7_fill_53178 13 = .ok (.iastore, 1) := by decide +kernel
theorem dJ7_fill_53178_14 : decode cJ7_fill_53178 14 = .ok (.iinc 2 1, 3) := by decide +kernel
theorem dJ7_fill_53178_17 : decode cJ7_fill_53178 17 = .ok (.goto (-12), 3) := by decide +kernel
theorem dJ7_fill_53178_20 : decode cJ7_fill_53178 20 = .ok (.return_, 1) := by decide +kernel
