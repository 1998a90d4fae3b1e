theorem dX10_letterFor_0 : decode cX10_letterFor 0 = .ok (.iload_n 1, 1) := by decide +kernel
theorem dX10_letterFor_1 : decode cX10_letterFor 1 = .ok (.ifCond .lt 19, 3) := by decide +kernel
theorem dX10_letterFor_20 : decode cX10_letterFor 20 = .ok (.iconst (-1), 1) := by decide +kernel
theorem dX10_letterFor_21 : decode cX10_letterFor 21 = .ok (.ireturn, 1) := by decide +kernel
theorem dX10_letterFor_4 : decode cX10_letterFor 4 = .ok (.iload_n 1, 1) := by decide +kernel
theorem dX10_letterFor_5 : decode cX10_letterFor 5 = .ok (.sipush 256, 3) := by decide +kernel
theorem dX10_letterFor_8 : decode cX10_letterFor 8 = .ok (.if_icmp .ge 12, 3) := by decide +kernel
theorem dX10_letterFor_11 : decode cX10_letterFor 11 = .ok (.aload_n 0, 1) := by decide +kernel
theorem dX10_letterFor_12 : decode cX10_letterFor 12 = .ok (.getfield 9, 3) := by decide +kernel
theorem dX10_letterFor_15 : decode cX10_letterFor 15 = .ok (.iload_n 1, 1) := by decide +kernel
theorem dX10_letterFor_16 : decode cX10_letterFor 16 = .ok (.iaload, 1) := by decide +kernel
theorem dX10_letterFor_17 : decode cX10_letterFor 17 = .ok (.goto 4, 3) := by decide +kernel
theorem dX2_letterAlone_0 : decode cX2_letterAlone 0 = .ok (.iload_n 1, 1) := by decide +kernel
theorem dX2_letterAlone_1 : decode cX2_letterAlone 1 = .ok (.tableswitch 65 0 3 #[31, 44, 31, 46], 31) := by decide +kernel
theorem dX2_letterAlone_32 : decode cX2_letterAlone 32 = .ok (.iload_n 2, 1) := by decide +kernel
theorem dX2_letterAlone_33 : decode cX2_letterAlone 33 = .ok (.sipush 128, 3) := by decide +kernel
theorem dX2_letterAlone_36 : decode cX2_letterAlone 36 = .ok (.if_icmp .ge 7, 3) := by decide +kernel
theorem dX2_letterAlone_43 : decode cX2_letterAlone 43 = .ok (.iconst (-1), 1) := by decide +kernel
theorem dX2_letterAlone_44 : decode cX2_letterAlone 44 = .ok (.ireturn, 1) := by decide +kernel
theorem dX2_letterAlone_39 : decode cX2_letterAlone 39 = .ok (.iload_n 2, 1) := by decide +kernel
theorem dX2_letterAlone_40 : decode cX2_letterAlone 40 = .ok (.goto 4, 3) := by decide +kernel
theorem dX2_letterAlone_45 : decode cX2_letterAlone 45 = .ok (.iload_n 2, 1) := by decide +kernel
theorem dX2_letterAlone_46 : decode cX2_letterAlone 46 = .ok (.ireturn, 1) := by decide +kernel
theorem dX2_letterAlone_47 : decode cX2_letterAlone 47 = .ok (.iload_n 2, 1) := by decide +kernel
theorem dX2_letterAlone_48 : decode cX2_letterAlone 48 = .ok (.sipush 128, 3) := by decide +kernel
theorem dX2_letterAlone_51 : decode cX2_letterAlone 51 = .ok (.if_icmp .ge 13, 3) := by decide +kernel
theorem dX2_letterAlone_64 : decode cX2_letterAlone 64 = .ok (.iconst (-1), 1) := by decide +kernel
theorem dX2_letterAlone_65 : decode cX2_letterAlone 65 = .ok (.ireturn, 1) := by decide +kernel
theorem dX2_letterAlone_54 : decode cX2_letterAlone 54 = .ok (.iload_n 2, 1) := by decide +kernel
theorem dX2_letterAlone_55 : decode cX2_letterAlone 55 = .ok (.bipush 38, 2) := by decide +kernel
theorem dX2_letterAlone_57 : decode cX2_letterAlone 57 = .ok (.if_icmp .eq 7, 3) := by decide +kernel
theorem dX2_letterAlone_60 : decode cX2_letterAlone 60 = .ok (.iload_n 2, 1) := by decide +kernel
theorem dX2_letterAlone_61 : decode cX2_letterAlone 61 = .ok (.goto 4, 3) := by decide +kernel
theorem dX2_letterAlone_66 : decode cX2_letterAlone 66 = .ok (.aload_n 0, 1) := by decide +kernel
theorem dX2_letterAlone_67 : decode cX2_letterAlone 67 = .ok (.iload_n 1, 1) := by decide +kernel
set_option maxRecDepth 20000 in
theorem ggX2_letterAlone_X2_toldCode : GoodIn wsX2_letterAlone wsX2_toldCode := goodIn_r _ [5, 6, 7, 14, 15] rfl (by decide +kernel)
set_option maxRecDepth 20000 in
theorem gX2_letterAlone_X2_toldCode : GoodIn wsX2_letterAlone (wsV RX2 21 RX2 yX2_toldCode wsX2_toldCode) := goodIn_app (goodIn_r _ [1, 2, 3, 4] rfl (by decide +kernel)) ggX2_letterAlone_X2_toldCode
theorem dX2_letterAlone_68 : decode cX2_letterAlone 68 = .ok (.invokevirtual 21, 3) := by decide +kernel
theorem dX2_letterAlone_71 : decode cX2_letterAlone 71 = .ok (.astore_n 3, 1) := by decide +kernel
theorem dX2_letterAlone_72 : decode cX2_letterAlone 72 = .ok (.aload_n 3, 1) := by decide +kernel
theorem dX2_letterAlone_73 : decode cX2_letterAlone 73 = .ok (.ifnonnull 7, 3) := by decide +kernel
theorem dX2_letterAlone_80 : decode cX2_letterAlone 80 = .ok (.aload_n 3, 1) := by decide +kernel
theorem dX2_letterAlone_81 : decode cX2_letterAlone 81 = .ok (.iload_n 2, 1) := by decide +kernel
set_option maxRecDepth 20000 in
theorem ggX2_letterAlone_X10_letterFor : GoodIn wsX2_letterAlone wsX10_letterFor := goodIn_r _ [12, 13, 16, 17, 18, 19] rfl (by decide +kernel)
set_option maxRecDepth 20000 in
theorem gX2_letterAlone_X10_letterFor : GoodIn wsX2_letterAlone (wsV RX2 29 RX10 yX10_letterFor wsX10_letterFor) := goodIn_app (goodIn_r _ [8, 9, 10, 11] rfl (by decide +kernel)) ggX2_letterAlone_X10_letterFor
theorem dX2_letterAlone_82 : decode cX2_letterAlone 82 = .ok (.invokevirtual 29, 3) := by decide +kernel
theorem dX2_letterAlone_85 : decode cX2_letterAlone 85 = .ok (.ireturn, 1) := by decide +kernel
theorem dX2_isWritten_0 : decode cX2_isWritten 0 = .ok (.iload_n 1, 1) := by decide +kernel
theorem dX2_isWritten_1 : decode cX2_isWritten 1 = .ok (.lookupswitch 67 #[(2, 27), (3, 54)], 27) := by decide +kernel
theorem dX2_isWritten_68 : decode cX2_isWritten 68 = .ok (.aload_n 0, 1) := by decide +kernel
theorem dX2_isWritten_69 : decode cX2_isWritten 69 = .ok (.iload_n 1, 1) := by decide +kernel
theorem dX2_isWritten_70 : decode cX2_isWritten 70 = .ok (.iload_n 2, 1) := by decide +kernel
set_option maxRecDepth 20000 in
theorem ggX2_isWritten_X2_letterAlone : GoodIn wsX2_isWritten wsX2_letterAlone := goodIn_r _ [5, 6, 7, 8, 4, 9, 10, 11, 12, 13, 14, 15, 16, 17, 18, 19, 20, 21, 22, 23] rfl (by decide +kernel)
set_option maxRecDepth 20000 in
theorem gX2_isWritten_X2_letterAlone : GoodIn wsX2_isWritten (wsV RX2 38 RX2 yX2_letterAlone wsX2_letterAlone) := goodIn_app (goodIn_r _ [1, 2, 3, 4] rfl (by decide +kernel)) ggX2_isWritten_X2_letterAlone
theorem dX2_isWritten_71 : decode cX2_isWritten 71 = .ok (.invokevirtual 38, 3) := by decide +kernel
theorem dX2_isWritten_74 : decode cX2_isWritten 74 = .ok (.iconst (-1), 1) := by decide +kernel
theorem dX2_isWritten_75 : decode cX2_isWritten 75 = .ok (.if_icmp .eq 7, 3) := by decide +kernel
theorem dX2_isWritten_82 : decode cX2_isWritten 82 = .ok (.iconst 0, 1) := by decide +kernel
theorem dX2_isWritten_83 : decode cX2_isWritten 83 = .ok (.ireturn, 1) := by decide +kernel
theorem dX2_isWritten_78 : decode cX2_isWritten 78 = .ok (.iconst 1, 1) := by decide +kernel
theorem dX2_isWritten_79 : decode cX2_isWritten 79 = .ok (.goto 4, 3) := by decide +kernel
theorem dX2_isWritten_28 : decode cX2_isWritten 28 = .ok (.iload_n 2, 1) := by decide +kernel
theorem dX2_isWritten_29 : decode cX2_isWritten 29 = .ok (.sipush 192, 3) := by decide +kernel
theorem dX2_isWritten_32 : decode cX2_isWritten 32 = .ok (.if_icmp .lt 17, 3) := by decide +kernel
theorem dX2_isWritten_49 : decode cX2_isWritten 49 = .ok (.iconst 1, 1) := by decide +kernel
theorem dX2_isWritten_50 : decode cX2_isWritten 50 = .ok (.goto 4, 3) := by decide +kernel
theorem dX2_isWritten_54 : decode cX2_isWritten 54 = .ok (.ireturn, 1) := by decide +kernel
theorem dX2_isWritten_35 : decode cX2_isWritten 35 = .ok (.iload_n 2, 1) := by decide +kernel
theorem dX2_isWritten_36 : decode cX2_isWritten 36 = .ok (.sipush 193, 3) := by decide +kernel
theorem dX2_isWritten_39 : decode cX2_isWritten 39 = .ok (.if_icmp .le 14, 3) := by decide +kernel
theorem dX2_isWritten_53 : decode cX2_isWritten 53 = .ok (.iconst 0, 1) := by decide +kernel
theorem dX2_isWritten_42 : decode cX2_isWritten 42 = .ok (.iload_n 2, 1) := by decide +kernel
theorem dX2_isWritten_43 : decode cX2_isWritten 43 = .ok (.sipush 240, 3) := by decide +kernel
theorem dX2_isWritten_46 : decode cX2_isWritten 46 = .ok (.if_icmp .ge 7, 3) := by decide +kernel
theorem dX2_isWritten_55 : decode cX2_isWritten 55 = .ok (.iload_n 2, 1) := by decide +kernel
theorem dX2_isWritten_56 : decode cX2_isWritten 56 = .ok (.sipush 128, 3) := by decide +kernel
theorem dX2_isWritten_59 : decode cX2_isWritten 59 = .ok (.if_icmp .ge 7, 3) := by decide +kernel
theorem dX2_isWritten_66 : decode cX2_isWritten 66 = .ok (.iconst 0, 1) := by decide +kernel
theorem dX2_isWritten_67 : decode cX2_isWritten 67 = .ok (.ireturn, 1) := by decide +kernel
theorem dX2_isWritten_62 : decode cX2_isWritten 62 = .ok (.iconst 1, 1) := by decide +kernel
theorem dX2_isWritten_63 : decode cX2_isWritten 63 = .ok (.goto 4, 3) := by decide +kernel
theorem dX2_neverLost_0 : decode cX2_neverLost 0 = .ok (.iload_n 1, 1) := by decide +kernel
theorem dX2_neverLost_1 : decode cX2_neverLost 1 = .ok (.iload_n 2, 1) := by decide +kernel
theorem dX2_neverLost_2 : decode cX2_neverLost 2 = .ok (.if_icmp .ne 5, 3) := by decide +kernel
theorem dX2_neverLost_7 : decode cX2_neverLost 7 = .ok (.iconst 0, 1) := by decide +kernel
theorem dX2_neverLost_8 : decode cX2_neverLost 8 = .ok (.istore_n 3, 1) := by decide +kernel
theorem dX2_neverLost_9 : decode cX2_neverLost 9 = .ok (.iload_n 3, 1) := by decide +kernel
theorem dX2_neverLost_10 : decode cX2_neverLost 10 = .ok (.sipush 256, 3) := by decide +kernel
theorem dX2_neverLost_13 : decode cX2_neverLost 13 = .ok (.if_icmp .ge 30, 3) := by decide +kernel
theorem dX2_neverLost_43 : decode cX2_neverLost 43 = .ok (.iconst 1, 1) := by decide +kernel
theorem dX2_neverLost_44 : decode cX2_neverLost 44 = .ok (.ireturn, 1) := by decide +kernel
theorem dX2_neverLost_16 : decode cX2_neverLost 16 = .ok (.aload_n 0, 1) := by decide +kernel
theorem dX2_neverLost_17 : decode cX2_neverLost 17 = .ok (.iload_n 1, 1) := by decide +kernel
theorem dX2_neverLost_18 : decode cX2_neverLost 18 = .ok (.iload_n 3, 1) := by decide +kernel
set_option maxRecDepth 20000 in
theorem ggX2_neverLost_X2_isWritten : GoodIn wsX2_neverLost wsX2_isWritten := goodIn_r _ [5, 6, 7, 8, 4, 9, 10, 11, 12, 13, 14, 15, 16, 17, 18, 19, 20, 21, 22, 23, 24, 25, 26, 27] rfl (by decide +kernel)
set_option maxRecDepth 20000 in
theorem gX2_neverLost_X2_isWritten : GoodIn wsX2_neverLost (wsV RX2 72 RX2 yX2_isWritten wsX2_isWritten) := goodIn_app (goodIn_r _ [1, 2, 3, 4] rfl (by decide +kernel)) ggX2_neverLost_X2_isWritten
theorem dX2_neverLost_19 : decode cX2_neverLost 19 = .ok (.invokevirtual 72, 3) := by decide +kernel
theorem dX2_neverLost_22 : decode cX2_neverLost 22 = .ok (.ifCond .eq 15, 3) := by decide +kernel
theorem dX2_neverLost_37 : decode cX2_neverLost 37 = .ok (.iinc 3 1, 3) := by decide +kernel
theorem dX2_neverLost_40 : decode cX2_neverLost 40 = .ok (.goto (-31), 3) := by decide +kernel
theorem dX2_neverLost_25 : decode cX2_neverLost 25 = .ok (.aload_n 0, 1) := by decide +kernel
theorem dX2_neverLost_26 : decode cX2_neverLost 26 = .ok (.iload_n 2, 1) := by decide +kernel
theorem dX2_neverLost_27 : decode cX2_neverLost 27 = .ok (.iload_n 3, 1) := by decide +kernel
set_option maxRecDepth 20000 in
theorem ggX2_neverLost_X2_letterAlone : GoodIn wsX2_neverLost wsX2_letterAlone := goodIn_r _ [9, 10, 11, 12, 4, 13, 14, 15, 16, 17, 18, 19, 20, 21, 22, 23, 24, 25, 26, 27] rfl (by decide +kernel)
set_option maxRecDepth 20000 in
theorem gX2_neverLost_X2_letterAlone : GoodIn wsX2_neverLost (wsV RX2 38 RX2 yX2_letterAlone wsX2_letterAlone) := goodIn_app (goodIn_r _ [6, 7, 8, 4] rfl (by decide +kernel)) ggX2_neverLost_X2_letterAlone
theorem dX2_neverLost_28 : decode cX2_neverLost 28 = .ok (.invokevirtual 38, 3) := by decide +kernel
theorem dX2_neverLost_31 : decode cX2_neverLost 31 = .ok (.iconst (-1), 1) := by decide +kernel
theorem dX2_neverLost_32 : decode cX2_neverLost 32 = .ok (.if_icmp .ne 5, 3) := by decide +kernel
theorem dX2_neverLost_35 : decode cX2_neverLost 35 = .ok (.iconst 0, 1) := by decide +kernel
theorem dX2_neverLost_36 : decode cX2_neverLost 36 = .ok (.ireturn, 1) := by decide +kernel
theorem dX2_neverLost_5 : decode cX2_neverLost 5 = .ok (.iconst 1, 1) := by decide +kernel
theorem dX2_neverLost_6 : decode cX2_neverLost 6 = .ok (.ireturn, 1) := by decide +kernel
theorem dX11_safe_0 : decode cX11_safe 0 = .ok (.aload_n 0, 1) := by decide +kernel
theorem dX11_safe_1 : decode cX11_safe 1 = .ok (.iconst (-1), 1) := by decide +kernel
theorem dX11_safe_2 : decode cX11_safe 2 = .ok (.putfield 90, 3) := by decide +kernel
theorem dX11_safe_5 : decode cX11_safe 5 = .ok (.iload_n 1, 1) := by decide +kernel
set_option maxRecDepth 20000 in
theorem ggX11_safe_X2_known : GoodIn wsX11_safe wsX2_known := goodIn_r _ [6] rfl (by decide +kernel)
set_option maxRecDepth 20000 in
theorem gX11_safe_X2_known : GoodIn wsX11_safe (va_wsS RX11 117 yX2_known wsX2_known) := goodIn_app (goodIn_r _ [3, 4, 5] rfl (by decide +kernel)) ggX11_safe_X2_known
theorem dX11_safe_6 : decode cX11_safe 6 = .ok (.invokestatic 117, 3) := by decide +kernel
theorem dX11_safe_9 : decode cX11_safe 9 = .ok (.ifCond .eq 10, 3) := by decide +kernel
theorem dX11_safe_19 : decode cX11_safe 19 = .ok (.iconst (-1), 1) := by decide +kernel
theorem dX11_safe_20 : decode cX11_safe 20 = .ok (.ireturn, 1) := by decide +kernel
theorem dX11_safe_12 : decode cX11_safe 12 = .ok (.iload_n 2, 1) := by decide +kernel
theorem dX11_safe_13 : decode cX11_safe 13 = .ok (.invokestatic 117, 3) := by decide +kernel
theorem dX11_safe_16 : decode cX11_safe 16 = .ok (.ifCond .ne 5, 3) := by decide +kernel
theorem dX11_safe_21 : decode cX11_safe 21 = .ok (.aload_n 0, 1) := by decide +kernel
theorem dX11_safe_22 : decode cX11_safe 22 = .ok (.getfield 40, 3) := by decide +kernel
theorem dX11_safe_25 : decode cX11_safe 25 = .ok (.iload_n 1, 1) := by decide +kernel
theorem dX11_safe_26 : decode cX11_safe 26 = .ok (.iload_n 2, 1) := by decide +kernel
set_option maxRecDepth 20000 in
theorem ggX11_safe_X2_neverLost : GoodIn wsX11_safe wsX2_neverLost := goodIn_r _ [10, 11, 12, 13, 5, 14, 15, 16, 17, 18, 19, 20, 21, 22, 23, 24, 25, 26, 27, 28, 29, 30, 43, 44, 45, 46, 47, 48] rfl (by decide +kernel)
set_option maxRecDepth 20000 in
theorem gX11_safe_X2_neverLost : GoodIn wsX11_safe (wsV RX11 185 RX2 yX2_neverLost wsX2_neverLost) := goodIn_app (goodIn_r _ [7, 8, 9, 5] rfl (by decide +kernel)) ggX11_safe_X2_neverLost
theorem dX11_safe_27 : decode cX11_safe 27 = .ok (.invokevirtual 185, 3) := by decide +kernel
theorem dX11_safe_30 : decode cX11_safe 30 = .ok (.ifCond .eq 7, 3) := by decide +kernel
theorem dX11_safe_37 : decode cX11_safe 37 = .ok (.iconst 0, 1) := by decide +kernel
theorem dX11_safe_38 : decode cX11_safe 38 = .ok (.ireturn, 1) := by decide +kernel
theorem dX11_safe_33 : decode cX11_safe 33 = .ok (.iconst 1, 1) := by decide +kernel
theorem dX11_safe_34 : decode cX11_safe 34 = .ok (.goto 4, 3) := by decide +kernel
