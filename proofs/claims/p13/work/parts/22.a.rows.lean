theorem dJ7_fill_53178_0 : decode cJ7_fill_53178 0 = .ok (.iconst 0, 1) := by decide +kernel
theorem dJ7_fill_53178_1 : decode cJ7_fill_53178 1 = .ok (.istore_n 2, 1) := by decide +kernel
theorem dJ7_fill_53178_2 : decode cJ7_fill_53178 2 = .ok (.aload_n 0, 1) := by decide +kernel
theorem dJ7_fill_53178_3 : decode cJ7_fill_53178 3 = .ok (.arraylength, 1) := by decide +kernel
theorem dJ7_fill_53178_4 : decode cJ7_fill_53178 4 = .ok (.istore_n 3, 1) := by decide +kernel
theorem dJ7_fill_53178_5 : decode cJ7_fill_53178 5 = .ok (.iload_n 2, 1) := by decide +kernel
theorem dJ7_fill_53178_6 : decode cJ7_fill_53178 6 = .ok (.iload_n 3, 1) := by decide +kernel
theorem dJ7_fill_53178_7 : decode cJ7_fill_53178 7 = .ok (.if_icmp .ge 13, 3) := by decide +kernel
theorem dJ7_fill_53178_20 : decode cJ7_fill_53178 20 = .ok (.return_, 1) := by decide +kernel
theorem dJ7_fill_53178_10 : decode cJ7_fill_53178 10 = .ok (.aload_n 0, 1) := by decide +kernel
theorem dJ7_fill_53178_11 : decode cJ7_fill_53178 11 = .ok (.iload_n 2, 1) := by decide +kernel
theorem dJ7_fill_53178_12 : decode cJ7_fill_53178 12 = .ok (.iload_n 1, 1) := by decide +kernel
theorem dJ7_fill_53178_13 : decode cJ7_fill_53178 13 = .ok (.iastore, 1) := by decide +kernel
theorem dJ7_fill_53178_14 : decode cJ7_fill_53178 14 = .ok (.iinc 2 1, 3) := by decide +kernel
theorem dJ7_fill_53178_17 : decode cJ7_fill_53178 17 = .ok (.goto (-12), 3) := by decide +kernel
theorem dX10_length_0 : decode cX10_length 0 = .ok (.aload_n 0, 1) := by decide +kernel
theorem dX10_length_1 : decode cX10_length 1 = .ok (.getfield 27, 3) := by decide +kernel
theorem dX10_length_4 : decode cX10_length 4 = .ok (.ireturn, 1) := by decide +kernel
theorem dX10_empty_0 : decode cX10_empty 0 = .ok (.aload_n 0, 1) := by decide +kernel
theorem dX10_empty_1 : decode cX10_empty 1 = .ok (.getfield 9, 3) := by decide +kernel
theorem dX10_empty_4 : decode cX10_empty 4 = .ok (.iconst (-1), 1) := by decide +kernel
set_option maxRecDepth 20000 in
theorem ggX10_empty_J7_fill_53178 : GoodIn wsX10_empty wsJ7_fill_53178 := goodIn_r _ [7] rfl (by decide +kernel)
set_option maxRecDepth 20000 in
theorem gX10_empty_J7_fill_53178 : GoodIn wsX10_empty (va_wsS RX10 21 yJ7_fill_53178 wsJ7_fill_53178) := goodIn_app (goodIn_r _ [4, 5, 6] rfl (by decide +kernel)) ggX10_empty_J7_fill_53178
theorem dX10_empty_5 : decode cX10_empty 5 = .ok (.invokestatic 21, 3) := by decide +kernel
theorem dX10_empty_8 : decode cX10_empty 8 = .ok (.aload_n 0, 1) := by decide +kernel
theorem dX10_empty_9 : decode cX10_empty 9 = .ok (.getfield 18, 3) := by decide +kernel
theorem dX10_empty_12 : decode cX10_empty 12 = .ok (.iconst (-1), 1) := by decide +kernel
theorem dX10_empty_13 : decode cX10_empty 13 = .ok (.invokestatic 21, 3) := by decide +kernel
theorem dX10_empty_16 : decode cX10_empty 16 = .ok (.aload_n 0, 1) := by decide +kernel
theorem dX10_empty_17 : decode cX10_empty 17 = .ok (.iconst 0, 1) := by decide +kernel
theorem dX10_empty_18 : decode cX10_empty 18 = .ok (.putfield 27, 3) := by decide +kernel
theorem dX10_empty_21 : decode cX10_empty 21 = .ok (.return_, 1) := by decide +kernel
theorem dX10_letterFor_0 : decode cX10_letterFor 0 = .ok (.iload_n 1, 1) := by decide +kernel
theorem dX10_letterFor_1 : decode cX10_letterFor 1 = .ok (.ifCond .lt 19, 3) := by decide +kernel
theorem dX10_letterFor_20 : decode cX10_letterFor 20 = .ok (.iconst (-1), 1) := by decide +kernel
theorem dX10_letterFor_21 : decode cX10_letterFor 21 = .ok (.ireturn, 1) := by decide +kernel
theorem dX10_letterFor_4 : decode cX10_letterFor 4 = .ok (.iload_n 1, 1) := by decide +kernel
theorem dX10_letterFor_5 : decode cX10_letterFor 5 = .ok (.sipush 256, 3) := by decide +kernel
theorem dX10_letterFor_8 : decode cX10_letterFor 8 = .ok (.if_icmp .ge 12, 3) := by decide +kernel
theorem dX10_letterFor_11 : decode cX10_letterFor 11 = .ok (.aload_n 0, 1) := by decide +kernel
theorem dX10_letterFor_12 : decode cX10_letterFor 12 = .ok (.getfield 9, 3) := by decide +kernel
theorem dX10_letterFor_15 : decode cX10_letterFor 15 = .ok (.iload_n 1, 1) := by decide +kernel
theorem dX10_letterFor_16 : decode cX10_letterFor 16 = .ok (.iaload, 1) := by decide +kernel
theorem dX10_letterFor_17 : decode cX10_letterFor 17 = .ok (.goto 4, 3) := by decide +kernel
theorem dX10_placeFor_0 : decode cX10_placeFor 0 = .ok (.iload_n 1, 1) := by decide +kernel
theorem dX10_placeFor_1 : decode cX10_placeFor 1 = .ok (.ldc 45, 2) := by decide +kernel
theorem dX10_placeFor_3 : decode cX10_placeFor 3 = .ok (.imul, 1) := by decide +kernel
theorem dX10_placeFor_4 : decode cX10_placeFor 4 = .ok (.bipush 23, 2) := by decide +kernel
theorem dX10_placeFor_6 : decode cX10_placeFor 6 = .ok (.iushr, 1) := by decide +kernel
theorem dX10_placeFor_7 : decode cX10_placeFor 7 = .ok (.istore_n 2, 1) := by decide +kernel
theorem dX10_placeFor_8 : decode cX10_placeFor 8 = .ok (.iconst 0, 1) := by decide +kernel
theorem dX10_placeFor_9 : decode cX10_placeFor 9 = .ok (.istore_n 3, 1) := by decide +kernel
theorem dX10_placeFor_10 : decode cX10_placeFor 10 = .ok (.iload_n 3, 1) := by decide +kernel
theorem dX10_placeFor_11 : decode cX10_placeFor 11 = .ok (.sipush 512, 3) := by decide +kernel
theorem dX10_placeFor_14 : decode cX10_placeFor 14 = .ok (.if_icmp .ge 43, 3) := by decide +kernel
theorem dX10_placeFor_57 : decode cX10_placeFor 57 = .ok (.iconst (-1), 1) := by decide +kernel
theorem dX10_placeFor_58 : decode cX10_placeFor 58 = .ok (.ireturn, 1) := by decide +kernel
theorem dX10_placeFor_17 : decode cX10_placeFor 17 = .ok (.iload_n 2, 1) := by decide +kernel
theorem dX10_placeFor_18 : decode cX10_placeFor 18 = .ok (.iload_n 3, 1) := by decide +kernel
theorem dX10_placeFor_19 : decode cX10_placeFor 19 = .ok (.iadd, 1) := by decide +kernel
theorem dX10_placeFor_20 : decode cX10_placeFor 20 = .ok (.sipush 511, 3) := by decide +kernel
theorem dX10_placeFor_23 : decode cX10_placeFor 23 = .ok (.iand, 1) := by decide +kernel
theorem dX10_placeFor_24 : decode cX10_placeFor 24 = .ok (.istore 4, 2) := by decide +kernel
theorem dX10_placeFor_26 : decode cX10_placeFor 26 = .ok (.aload_n 0, 1) := by decide +kernel
theorem dX10_placeFor_27 : decode cX10_placeFor 27 = .ok (.getfield 18, 3) := by decide +kernel
theorem dX10_placeFor_30 : decode cX10_placeFor 30 = .ok (.iload 4, 2) := by decide +kernel
theorem dX10_placeFor_32 : decode cX10_placeFor 32 = .ok (.iaload, 1) := by decide +kernel
theorem dX10_placeFor_33 : decode cX10_placeFor 33 = .ok (.iconst (-1), 1) := by decide +kernel
theorem dX10_placeFor_34 : decode cX10_placeFor 34 = .ok (.if_icmp .eq 14, 3) := by decide +kernel
theorem dX10_placeFor_48 : decode cX10_placeFor 48 = .ok (.iload 4, 2) := by decide +kernel
theorem dX10_placeFor_50 : decode cX10_placeFor 50 = .ok (.ireturn, 1) := by decide +kernel
theorem dX10_placeFor_37 : decode cX10_placeFor 37 = .ok (.aload_n 0, 1) := by decide +kernel
theorem dX10_placeFor_38 : decode cX10_placeFor 38 = .ok (.getfield 15, 3) := by decide +kernel
theorem dX10_placeFor_41 : decode cX10_placeFor 41 = .ok (.iload 4, 2) := by decide +kernel
theorem dX10_placeFor_43 : decode cX10_placeFor 43 = .ok (.iaload, 1) := by decide +kernel
theorem dX10_placeFor_44 : decode cX10_placeFor 44 = .ok (.iload_n 1, 1) := by decide +kernel
theorem dX10_placeFor_45 : decode cX10_placeFor 45 = .ok (.if_icmp .ne 6, 3) := by decide +kernel
theorem dX10_placeFor_51 : decode cX10_placeFor 51 = .ok (.iinc 3 1, 3) := by decide +kernel
theorem dX10_placeFor_54 : decode cX10_placeFor 54 = .ok (.goto (-44), 3) := by decide +kernel
theorem dX10_byteFor_0 : decode cX10_byteFor 0 = .ok (.aload_n 0, 1) := by decide +kernel
theorem dX10_byteFor_1 : decode cX10_byteFor 1 = .ok (.iload_n 1, 1) := by decide +kernel
set_option maxRecDepth 20000 in
theorem ggX10_byteFor_X10_placeFor : GoodIn wsX10_byteFor wsX10_placeFor := goodIn_r _ [6, 7, 1, 8, 9, 10, 11, 12] rfl (by decide +kernel)
set_option maxRecDepth 20000 in
theorem gX10_byteFor_X10_placeFor : GoodIn wsX10_byteFor (wsV RX10 31 RX10 yX10_placeFor wsX10_placeFor) := goodIn_app (goodIn_r _ [2, 3, 4, 5] rfl (by decide +kernel)) ggX10_byteFor_X10_placeFor
theorem dX10_byteFor_2 : decode cX10_byteFor 2 = .ok (.invokevirtual 31, 3) := by decide +kernel
theorem dX10_byteFor_5 : decode cX10_byteFor 5 = .ok (.istore_n 2, 1) := by decide +kernel
theorem dX10_byteFor_6 : decode cX10_byteFor 6 = .ok (.iload_n 2, 1) := by decide +kernel
theorem dX10_byteFor_7 : decode cX10_byteFor 7 = .ok (.iconst (-1), 1) := by decide +kernel
theorem dX10_byteFor_8 : decode cX10_byteFor 8 = .ok (.if_icmp .ne 7, 3) := by decide +kernel
theorem dX10_byteFor_15 : decode cX10_byteFor 15 = .ok (.aload_n 0, 1) := by decide +kernel
theorem dX10_byteFor_16 : decode cX10_byteFor 16 = .ok (.getfield 18, 3) := by decide +kernel
theorem dX10_byteFor_19 : decode cX10_byteFor 19 = .ok (.iload_n 2, 1) := by decide +kernel
theorem dX10_byteFor_20 : decode cX10_byteFor 20 = .ok (.iaload, 1) := by decide +kernel
theorem dX10_byteFor_21 : decode cX10_byteFor 21 = .ok (.ireturn, 1) := by decide +kernel
theorem dX10_byteFor_11 : decode cX10_byteFor 11 = .ok (.iconst (-1), 1) := by decide +kernel
theorem dX10_byteFor_12 : decode cX10_byteFor 12 = .ok (.goto 9, 3) := by decide +kernel
theorem dX11_isLetter_0 : decode cX11_isLetter 0 = .ok (.iload_n 0, 1) := by decide +kernel
theorem dX11_isLetter_1 : decode cX11_isLetter 1 = .ok (.ifCond .lt 28, 3) := by decide +kernel
theorem dX11_isLetter_29 : decode cX11_isLetter 29 = .ok (.iconst 0, 1) := by decide +kernel
theorem dX11_isLetter_30 : decode cX11_isLetter 30 = .ok (.ireturn, 1) := by decide +kernel
theorem dX11_isLetter_4 : decode cX11_isLetter 4 = .ok (.iload_n 0, 1) := by decide +kernel
theorem dX11_isLetter_5 : decode cX11_isLetter 5 = .ok (.ldc_w 262, 3) := by decide +kernel
theorem dX11_isLetter_8 : decode cX11_isLetter 8 = .ok (.if_icmp .gt 21, 3) := by decide +kernel
theorem dX11_isLetter_11 : decode cX11_isLetter 11 = .ok (.iload_n 0, 1) := by decide +kernel
theorem dX11_isLetter_12 : decode cX11_isLetter 12 = .ok (.ldc_w 263, 3) := by decide +kernel
theorem dX11_isLetter_15 : decode cX11_isLetter 15 = .ok (.if_icmp .lt 10, 3) := by decide +kernel
theorem dX11_isLetter_25 : decode cX11_isLetter 25 = .ok (.iconst 1, 1) := by decide +kernel
theorem dX11_isLetter_26 : decode cX11_isLetter 26 = .ok (.goto 4, 3) := by decide +kernel
theorem dX11_isLetter_18 : decode cX11_isLetter 18 = .ok (.iload_n 0, 1) := by decide +kernel
theorem dX11_isLetter_19 : decode cX11_isLetter 19 = .ok (.ldc_w 264, 3) := by decide +kernel
theorem dX11_isLetter_22 : decode cX11_isLetter 22 = .ok (.if_icmp .le 7, 3) := by decide +kernel
