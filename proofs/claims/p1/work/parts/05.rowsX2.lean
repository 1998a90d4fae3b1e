set_option maxRecDepth 20000 in
theorem ggX2_init_X10_init : GoodIn wsX2_init wsX10_init := goodIn_r _ [11, 12, 2, 3, 13, 14, 15, 16, 17, 18, 19, 20, 21, 22, 23, 24, 25] (by decide +kernel) (by decide +kernel)
set_option maxRecDepth 20000 in
theorem gX2_init_X10_init : GoodIn wsX2_init (wsX10_init) := ggX2_init_X10_init
theorem dX2_init_0 : decode cX2_init 0 = .ok (.aload_n 0, 1) := by decide +kernel
theorem dX2_init_1 : decode cX2_init 1 = .ok (.invokespecial 3, 3) := by decide +kernel
theorem dX2_init_4 : decode cX2_init 4 = .ok (.aload_n 0, 1) := by decide +kernel
theorem dX2_init_5 : decode cX2_init 5 = .ok (.new 9, 3) := by decide +kernel
theorem dX2_init_8 : decode cX2_init 8 = .ok (.dup, 1) := by decide +kernel
theorem dX2_init_9 : decode cX2_init 9 = .ok (.invokespecial 11, 3) := by decide +kernel
theorem dX2_init_12 : decode cX2_init 12 = .ok (.putfield 12, 3) := by decide +kernel
theorem dX2_init_15 : decode cX2_init 15 = .ok (.aload_n 0, 1) := by decide +kernel
theorem dX2_init_16 : decode cX2_init 16 = .ok (.new 9, 3) := by decide +kernel
theorem dX2_init_19 : decode cX2_init 19 = .ok (.dup, 1) := by decide +kernel
theorem dX2_init_20 : decode cX2_init 20 = .ok (.invokespecial 11, 3) := by decide +kernel
theorem dX2_init_23 : decode cX2_init 23 = .ok (.putfield 18, 3) := by decide +kernel
theorem dX2_init_26 : decode cX2_init 26 = .ok (.return_, 1) := by decide +kernel
theorem dX2_known_0 : decode cX2_known 0 = .ok (.iload_n 0, 1) := by decide +kernel
theorem dX2_known_1 : decode cX2_known 1 = .ok (.ifCond .lt 12, 3) := by decide +kernel
theorem dX2_known_4 : decode cX2_known 4 = .ok (.iload_n 0, 1) := by decide +kernel
theorem dX2_known_5 : decode cX2_known 5 = .ok (.iconst 5, 1) := by decide +kernel
theorem dX2_known_6 : decode cX2_known 6 = .ok (.if_icmp .gt 7, 3) := by decide +kernel
theorem dX2_known_9 : decode cX2_known 9 = .ok (.iconst 1, 1) := by decide +kernel
theorem dX2_known_10 : decode cX2_known 10 = .ok (.goto 4, 3) := by decide +kernel
theorem dX2_known_13 : decode cX2_known 13 = .ok (.iconst 0, 1) := by decide +kernel
theorem dX2_known_14 : decode cX2_known 14 = .ok (.ireturn, 1) := by decide +kernel
theorem dX2_toldCode_0 : decode cX2_toldCode 0 = .ok (.iload_n 1, 1) := by decide +kernel
theorem dX2_toldCode_1 : decode cX2_toldCode 1 = .ok (.iconst 4, 1) := by decide +kernel
theorem dX2_toldCode_2 : decode cX2_toldCode 2 = .ok (.if_icmp .ne 10, 3) := by decide +kernel
theorem dX2_toldCode_5 : decode cX2_toldCode 5 = .ok (.aload_n 0, 1) := by decide +kernel
theorem dX2_toldCode_6 : decode cX2_toldCode 6 = .ok (.getfield 12, 3) := by decide +kernel
theorem dX2_toldCode_9 : decode cX2_toldCode 9 = .ok (.goto 16, 3) := by decide +kernel
theorem dX2_toldCode_12 : decode cX2_toldCode 12 = .ok (.iload_n 1, 1) := by decide +kernel
theorem dX2_toldCode_13 : decode cX2_toldCode 13 = .ok (.iconst 5, 1) := by decide +kernel
theorem dX2_toldCode_14 : decode cX2_toldCode 14 = .ok (.if_icmp .ne 10, 3) := by decide +kernel
theorem dX2_toldCode_17 : decode cX2_toldCode 17 = .ok (.aload_n 0, 1) := by decide +kernel
theorem dX2_toldCode_18 : decode cX2_toldCode 18 = .ok (.getfield 18, 3) := by decide +kernel
theorem dX2_toldCode_21 : decode cX2_toldCode 21 = .ok (.goto 4, 3) := by decide +kernel
theorem dX2_toldCode_24 : decode cX2_toldCode 24 = .ok (.aconst_null, 1) := by decide +kernel
theorem dX2_toldCode_25 : decode cX2_toldCode 25 = .ok (.areturn, 1) := by decide +kernel
set_option maxRecDepth 20000 in
theorem ggX2_lengthOf_X2_toldCode : GoodIn wsX2_lengthOf wsX2_toldCode := goodIn_r _ [5, 6, 7, 14, 15] (by decide +kernel) (by decide +kernel)
set_option maxRecDepth 20000 in
theorem gX2_lengthOf_X2_toldCode : GoodIn wsX2_lengthOf (wsV RX2 21 RX2 yX2_toldCode wsX2_toldCode) := goodIn_app (goodIn_of _ (by decide +kernel)) ggX2_lengthOf_X2_toldCode
set_option maxRecDepth 20000 in
theorem ggX2_lengthOf_X10_length : GoodIn wsX2_lengthOf wsX10_length := goodIn_r _ [12, 13, 16, 17, 18, 19] (by decide +kernel) (by decide +kernel)
set_option maxRecDepth 20000 in
theorem gX2_lengthOf_X10_length : GoodIn wsX2_lengthOf (wsV RX2 25 RX10 yX10_length wsX10_length) := goodIn_app (goodIn_of _ (by decide +kernel)) ggX2_lengthOf_X10_length
theorem dX2_lengthOf_0 : decode cX2_lengthOf 0 = .ok (.aload_n 0, 1) := by decide +kernel
theorem dX2_lengthOf_1 : decode cX2_lengthOf 1 = .ok (.iload_n 1, 1) := by decide +kernel
theorem dX2_lengthOf_2 : decode cX2_lengthOf 2 = .ok (.invokevirtual 21, 3) := by decide +kernel
theorem dX2_lengthOf_5 : decode cX2_lengthOf 5 = .ok (.astore_n 2, 1) := by decide +kernel
theorem dX2_lengthOf_6 : decode cX2_lengthOf 6 = .ok (.aload_n 2, 1) := by decide +kernel
theorem dX2_lengthOf_7 : decode cX2_lengthOf 7 = .ok (.ifnonnull 7, 3) := by decide +kernel
theorem dX2_lengthOf_10 : decode cX2_lengthOf 10 = .ok (.iconst (-1), 1) := by decide +kernel
theorem dX2_lengthOf_11 : decode cX2_lengthOf 11 = .ok (.goto 7, 3) := by decide +kernel
theorem dX2_lengthOf_14 : decode cX2_lengthOf 14 = .ok (.aload_n 2, 1) := by decide +kernel
theorem dX2_lengthOf_15 : decode cX2_lengthOf 15 = .ok (.invokevirtual 25, 3) := by decide +kernel
theorem dX2_lengthOf_18 : decode cX2_lengthOf 18 = .ok (.ireturn, 1) := by decide +kernel
theorem dX2_letterIn_0 : decode cX2_letterIn 0 = .ok (.iload_n 0, 1) := by decide +kernel
theorem dX2_letterIn_1 : decode cX2_letterIn 1 = .ok (.iconst 4, 1) := by decide +kernel
theorem dX2_letterIn_2 : decode cX2_letterIn 2 = .ok (.ishr, 1) := by decide +kernel
theorem dX2_letterIn_3 : decode cX2_letterIn 3 = .ok (.ireturn, 1) := by decide +kernel
theorem dX2_bytesIn_0 : decode cX2_bytesIn 0 = .ok (.iload_n 0, 1) := by decide +kernel
theorem dX2_bytesIn_1 : decode cX2_bytesIn 1 = .ok (.bipush 15, 2) := by decide +kernel
theorem dX2_bytesIn_3 : decode cX2_bytesIn 3 = .ok (.iand, 1) := by decide +kernel
theorem dX2_bytesIn_4 : decode cX2_bytesIn 4 = .ok (.ireturn, 1) := by decide +kernel
theorem dX2_found_0 : decode cX2_found 0 = .ok (.iload_n 0, 1) := by decide +kernel
theorem dX2_found_1 : decode cX2_found 1 = .ok (.iconst (-1), 1) := by decide +kernel
theorem dX2_found_2 : decode cX2_found 2 = .ok (.if_icmp .ne 7, 3) := by decide +kernel
theorem dX2_found_5 : decode cX2_found 5 = .ok (.iconst (-1), 1) := by decide +kernel
theorem dX2_found_6 : decode cX2_found 6 = .ok (.goto 8, 3) := by decide +kernel
theorem dX2_found_9 : decode cX2_found 9 = .ok (.iload_n 0, 1) := by decide +kernel
theorem dX2_found_10 : decode cX2_found 10 = .ok (.iconst 4, 1) := by decide +kernel
theorem dX2_found_11 : decode cX2_found 11 = .ok (.ishl, 1) := by decide +kernel
theorem dX2_found_12 : decode cX2_found 12 = .ok (.iload_n 1, 1) := by decide +kernel
theorem dX2_found_13 : decode cX2_found 13 = .ok (.iadd, 1) := by decide +kernel
theorem dX2_found_14 : decode cX2_found 14 = .ok (.ireturn, 1) := by decide +kernel
set_option maxRecDepth 20000 in
theorem ggX2_letterAlone_X2_toldCode : GoodIn wsX2_letterAlone wsX2_toldCode := goodIn_r _ [5, 6, 7, 14, 15] (by decide +kernel) (by decide +kernel)
set_option maxRecDepth 20000 in
theorem gX2_letterAlone_X2_toldCode : GoodIn wsX2_letterAlone (wsV RX2 21 RX2 yX2_toldCode wsX2_toldCode) := goodIn_app (goodIn_of _ (by decide +kernel)) ggX2_letterAlone_X2_toldCode
set_option maxRecDepth 20000 in
theorem ggX2_letterAlone_X10_letterFor : GoodIn wsX2_letterAlone wsX10_letterFor := goodIn_r _ [12, 13, 16, 17, 18, 19] (by decide +kernel) (by decide +kernel)
set_option maxRecDepth 20000 in
theorem gX2_letterAlone_X10_letterFor : GoodIn wsX2_letterAlone (wsV RX2 29 RX10 yX10_letterFor wsX10_letterFor) := goodIn_app (goodIn_of _ (by decide +kernel)) ggX2_letterAlone_X10_letterFor
theorem dX2_letterAlone_0 : decode cX2_letterAlone 0 = .ok (.iload_n 1, 1) := by decide +kernel
theorem dX2_letterAlone_1 : decode cX2_letterAlone 1 = .ok (.tableswitch 65 0 3 #[31, 44, 31, 46], 31) := by decide +kernel
theorem dX2_letterAlone_32 : decode cX2_letterAlone 32 = .ok (.iload_n 2, 1) := by decide +kernel
theorem dX2_letterAlone_33 : decode cX2_letterAlone 33 = .ok (.sipush 128, 3) := by decide +kernel
theorem dX2_letterAlone_36 : decode cX2_letterAlone 36 = .ok (.if_icmp .ge 7, 3) := by decide +kernel
theorem dX2_letterAlone_39 : decode cX2_letterAlone 39 = .ok (.iload_n 2, 1) := by decide +kernel
theorem dX2_letterAlone_40 : decode cX2_letterAlone 40 = .ok (.goto 4, 3) := by decide +kernel
theorem dX2_letterAlone_43 : decode cX2_letterAlone 43 = .ok (.iconst (-1), 1) := by decide +kernel
theorem dX2_letterAlone_44 : decode cX2_letterAlone 44 = .ok (.ireturn, 1) := by decide +kernel
theorem dX2_letterAlone_45 : decode cX2_letterAlone 45 = .ok (.iload_n 2, 1) := by decide +kernel
theorem dX2_letterAlone_46 : decode cX2_letterAlone 46 = .ok (.ireturn, 1) := by decide +kernel
theorem dX2_letterAlone_47 : decode cX2_letterAlone 47 = .ok (.iload_n 2, 1) := by decide +kernel
theorem dX2_letterAlone_48 : decode cX2_letterAlone 48 = .ok (.sipush 128, 3) := by decide +kernel
theorem dX2_letterAlone_51 : decode cX2_letterAlone 51 = .ok (.if_icmp .ge 13, 3) := by decide +kernel
theorem dX2_letterAlone_54 : decode cX2_letterAlone 54 = .ok (.iload_n 2, 1) := by decide +kernel
theorem dX2_letterAlone_55 : decode cX2_letterAlone 55 = .ok (.bipush 38, 2) := by decide +kernel
theorem dX2_letterAlone_57 : decode cX2_letterAlone 57 = .ok (.if_icmp .eq 7, 3) := by decide +kernel
theorem dX2_letterAlone_60 : decode cX2_letterAlone 60 = .ok (.iload_n 2, 1) := by decide +kernel
theorem dX2_letterAlone_61 : decode cX2_letterAlone 61 = .ok (.goto 4, 3) := by decide +kernel
theorem dX2_letterAlone_64 : decode cX2_letterAlone 64 = .ok (.iconst (-1), 1) := by decide +kernel
theorem dX2_letterAlone_65 : decode cX2_letterAlone 65 = .ok (.ireturn, 1) := by decide +kernel
theorem dX2_letterAlone_66 : decode cX2_letterAlone 66 = .ok (.aload_n 0, 1) := by decide +kernel
theorem dX2_letterAlone_67 : decode cX2_letterAlone 67 = .ok (.iload_n 1, 1) := by decide +kernel
theorem dX2_letterAlone_68 : decode cX2_letterAlone 68 = .ok (.invokevirtual 21, 3) := by decide +kernel
theorem dX2_letterAlone_71 : decode cX2_letterAlone 71 = .ok (.astore_n 3, 1) := by decide +kernel
theorem dX2_letterAlone_72 : decode cX2_letterAlone 72 = .ok (.aload_n 3, 1) := by decide +kernel
theorem dX2_letterAlone_73 : decode cX2_letterAlone 73 = .ok (.ifnonnull 7, 3) := by decide +kernel
theorem dX2_letterAlone_76 : decode cX2_letterAlone 76 = .ok (.iconst (-1), 1) := by decide +kernel
theorem dX2_letterAlone_77 : decode cX2_letterAlone 77 = .ok (.goto 8, 3) := by decide +kernel
theorem dX2_letterAlone_80 : decode cX2_letterAlone 80 = .ok (.aload_n 3, 1) := by decide +kernel
theorem dX2_letterAlone_81 : decode cX2_letterAlone 81 = .ok (.iload_n 2, 1) := by decide +kernel
theorem dX2_letterAlone_82 : decode cX2_letterAlone 82 = .ok (.invokevirtual 29, 3) := by decide +kernel
theorem dX2_letterAlone_85 : decode cX2_letterAlone 85 = .ok (.ireturn, 1) := by decide +kernel
set_option maxRecDepth 20000 in
theorem ggX2_decode_X5_get : GoodIn wsX2_decode wsX5_get := goodIn_r _ [5, 6, 7, 43, 44] (by decide +kernel) (by decide +kernel)
set_option maxRecDepth 20000 in
theorem gX2_decode_X5_get : GoodIn wsX2_decode (wsV RX2 33 RX5 yX5_get wsX5_get) := goodIn_app (goodIn_of _ (by decide +kernel)) ggX2_decode_X5_get
set_option maxRecDepth 20000 in
theorem ggX2_decode_X2_letterAlone : GoodIn wsX2_decode wsX2_letterAlone := goodIn_r _ [12, 13, 14, 15, 11, 16, 17, 18, 19, 20, 21, 22, 23, 24, 45, 46, 47, 48, 49, 50] (by decide +kernel) (by decide +kernel)
set_option maxRecDepth 20000 in
theorem gX2_decode_X2_letterAlone : GoodIn wsX2_decode (wsV RX2 38 RX2 yX2_letterAlone wsX2_letterAlone) := goodIn_app (goodIn_of _ (by decide +kernel)) ggX2_decode_X2_letterAlone
set_option maxRecDepth 20000 in
theorem ggX2_decode_X2_found : GoodIn wsX2_decode wsX2_found := goodIn_r _ [27] (by decide +kernel) (by decide +kernel)
set_option maxRecDepth 20000 in
theorem gX2_decode_X2_found : GoodIn wsX2_decode (va_wsS RX2 42 yX2_found wsX2_found) := goodIn_app (goodIn_of _ (by decide +kernel)) ggX2_decode_X2_found
set_option maxRecDepth 20000 in
theorem ggX2_decode_X2_decodeMany : GoodIn wsX2_decode wsX2_decodeMany := goodIn_r _ [30, 1, 2, 3, 4, 5, 6, 7, 31, 32, 33, 34, 35, 36, 25, 26, 11, 27, 43, 44] (by decide +kernel) (by decide +kernel)
set_option maxRecDepth 20000 in
theorem gX2_decode_X2_decodeMany : GoodIn wsX2_decode (va_wsS RX2 45 yX2_decodeMany wsX2_decodeMany) := goodIn_app (goodIn_of _ (by decide +kernel)) ggX2_decode_X2_decodeMany
set_option maxRecDepth 20000 in
theorem ggX2_decode_X2_decodeNumber : GoodIn wsX2_decode wsX2_decodeNumber := goodIn_r _ [39, 1, 2, 3, 4, 5, 6, 7, 31, 32, 33, 34, 35, 36, 40, 41, 11, 42, 25, 26, 27, 43, 44] (by decide +kernel) (by decide +kernel)
set_option maxRecDepth 20000 in
theorem gX2_decode_X2_decodeNumber : GoodIn wsX2_decode (va_wsS RX2 49 yX2_decodeNumber wsX2_decodeNumber) := goodIn_app (goodIn_of _ (by decide +kernel)) ggX2_decode_X2_decodeNumber
theorem dX2_decode_0 : decode cX2_decode 0 = .ok (.aload_n 2, 1) := by decide +kernel
theorem dX2_decode_1 : decode cX2_decode 1 = .ok (.iload_n 3, 1) := by decide +kernel
theorem dX2_decode_2 : decode cX2_decode 2 = .ok (.invokevirtual 33, 3) := by decide +kernel
theorem dX2_decode_5 : decode cX2_decode 5 = .ok (.istore 5, 2) := by decide +kernel
theorem dX2_decode_7 : decode cX2_decode 7 = .ok (.iload 5, 2) := by decide +kernel
theorem dX2_decode_9 : decode cX2_decode 9 = .ok (.iconst (-1), 1) := by decide +kernel
theorem dX2_decode_10 : decode cX2_decode 10 = .ok (.if_icmp .eq 9, 3) := by decide +kernel
theorem dX2_decode_13 : decode cX2_decode 13 = .ok (.iload_n 3, 1) := by decide +kernel
theorem dX2_decode_14 : decode cX2_decode 14 = .ok (.iload 4, 2) := by decide +kernel
theorem dX2_decode_16 : decode cX2_decode 16 = .ok (.if_icmp .lt 5, 3) := by decide +kernel
theorem dX2_decode_19 : decode cX2_decode 19 = .ok (.iconst (-1), 1) := by decide +kernel
theorem dX2_decode_20 : decode cX2_decode 20 = .ok (.ireturn, 1) := by decide +kernel
theorem dX2_decode_21 : decode cX2_decode 21 = .ok (.aload_n 0, 1) := by decide +kernel
theorem dX2_decode_22 : decode cX2_decode 22 = .ok (.iload_n 1, 1) := by decide +kernel
theorem dX2_decode_23 : decode cX2_decode 23 = .ok (.iload 5, 2) := by decide +kernel
theorem dX2_decode_25 : decode cX2_decode 25 = .ok (.invokevirtual 38, 3) := by decide +kernel
theorem dX2_decode_28 : decode cX2_decode 28 = .ok (.istore 6, 2) := by decide +kernel
theorem dX2_decode_30 : decode cX2_decode 30 = .ok (.iload 6, 2) := by decide +kernel
theorem dX2_decode_32 : decode cX2_decode 32 = .ok (.iconst (-1), 1) := by decide +kernel
theorem dX2_decode_33 : decode cX2_decode 33 = .ok (.if_icmp .eq 10, 3) := by decide +kernel
theorem dX2_decode_36 : decode cX2_decode 36 = .ok (.iload 6, 2) := by decide +kernel
theorem dX2_decode_38 : decode cX2_decode 38 = .ok (.iconst 1, 1) := by decide +kernel
theorem dX2_decode_39 : decode cX2_decode 39 = .ok (.invokestatic 42, 3) := by decide +kernel
theorem dX2_decode_42 : decode cX2_decode 42 = .ok (.ireturn, 1) := by decide +kernel
theorem dX2_decode_43 : decode cX2_decode 43 = .ok (.iload_n 1, 1) := by decide +kernel
theorem dX2_decode_44 : decode cX2_decode 44 = .ok (.iconst 2, 1) := by decide +kernel
theorem dX2_decode_45 : decode cX2_decode 45 = .ok (.if_icmp .ne 11, 3) := by decide +kernel
theorem dX2_decode_48 : decode cX2_decode 48 = .ok (.aload_n 2, 1) := by decide +kernel
theorem dX2_decode_49 : decode cX2_decode 49 = .ok (.iload_n 3, 1) := by decide +kernel
theorem dX2_decode_50 : decode cX2_decode 50 = .ok (.iload 4, 2) := by decide +kernel
theorem dX2_decode_52 : decode cX2_decode 52 = .ok (.invokestatic 45, 3) := by decide +kernel
theorem dX2_decode_55 : decode cX2_decode 55 = .ok (.ireturn, 1) := by decide +kernel
theorem dX2_decode_56 : decode cX2_decode 56 = .ok (.iload_n 1, 1) := by decide +kernel
theorem dX2_decode_57 : decode cX2_decode 57 = .ok (.iconst 3, 1) := by decide +kernel
theorem dX2_decode_58 : decode cX2_decode 58 = .ok (.if_icmp .ne 13, 3) := by decide +kernel
theorem dX2_decode_61 : decode cX2_decode 61 = .ok (.aload_n 2, 1) := by decide +kernel
theorem dX2_decode_62 : decode cX2_decode 62 = .ok (.iload_n 3, 1) := by decide +kernel
theorem dX2_decode_63 : decode cX2_decode 63 = .ok (.iload 4, 2) := by decide +kernel
theorem dX2_decode_65 : decode cX2_decode 65 = .ok (.invokestatic 49, 3) := by decide +kernel
theorem dX2_decode_68 : decode cX2_decode 68 = .ok (.goto 4, 3) := by decide +kernel
theorem dX2_decode_71 : decode cX2_decode 71 = .ok (.iconst (-1), 1) := by decide +kernel
theorem dX2_decode_72 : decode cX2_decode 72 = .ok (.ireturn, 1) := by decide +kernel
set_option maxRecDepth 20000 in
theorem ggX2_decodeMany_X5_get : GoodIn wsX2_decodeMany wsX5_get := goodIn_r _ [5, 6, 7, 18, 19] (by decide +kernel) (by decide +kernel)
set_option maxRecDepth 20000 in
theorem gX2_decodeMany_X5_get : GoodIn wsX2_decodeMany (wsV RX2 33 RX5 yX5_get wsX5_get) := goodIn_app (goodIn_of _ (by decide +kernel)) ggX2_decodeMany_X5_get
set_option maxRecDepth 20000 in
theorem ggX2_decodeMany_X11_isLetter : GoodIn wsX2_decodeMany wsX11_isLetter := goodIn_r _ [10, 11, 12, 13] (by decide +kernel) (by decide +kernel)
set_option maxRecDepth 20000 in
theorem gX2_decodeMany_X11_isLetter_n52 : GoodIn wsX2_decodeMany (wsX11_isLetter) := ggX2_decodeMany_X11_isLetter
set_option maxRecDepth 20000 in
theorem ggX2_decodeMany_X2_found : GoodIn wsX2_decodeMany wsX2_found := goodIn_r _ [17] (by decide +kernel) (by decide +kernel)
set_option maxRecDepth 20000 in
theorem gX2_decodeMany_X2_found : GoodIn wsX2_decodeMany (va_wsS RX2 42 yX2_found wsX2_found) := goodIn_app (goodIn_of _ (by decide +kernel)) ggX2_decodeMany_X2_found
theorem dX2_decodeMany_0 : decode cX2_decodeMany 0 = .ok (.aload_n 0, 1) := by decide +kernel
theorem dX2_decodeMany_1 : decode cX2_decodeMany 1 = .ok (.iload_n 1, 1) := by decide +kernel
theorem dX2_decodeMany_2 : decode cX2_decodeMany 2 = .ok (.invokevirtual 33, 3) := by decide +kernel
theorem dX2_decodeMany_5 : decode cX2_decodeMany 5 = .ok (.istore_n 3, 1) := by decide +kernel
theorem dX2_decodeMany_6 : decode cX2_decodeMany 6 = .ok (.iload_n 3, 1) := by decide +kernel
theorem dX2_decodeMany_7 : decode cX2_decodeMany 7 = .ok (.sipush 224, 3) := by decide +kernel
theorem dX2_decodeMany_10 : decode cX2_decodeMany 10 = .ok (.if_icmp .lt 7, 3) := by decide +kernel
theorem dX2_decodeMany_13 : decode cX2_decodeMany 13 = .ok (.iconst 3, 1) := by decide +kernel
theorem dX2_decodeMany_14 : decode cX2_decodeMany 14 = .ok (.goto 4, 3) := by decide +kernel
theorem dX2_decodeMany_17 : decode cX2_decodeMany 17 = .ok (.iconst 2, 1) := by decide +kernel
theorem dX2_decodeMany_18 : decode cX2_decodeMany 18 = .ok (.istore 4, 2) := by decide +kernel
theorem dX2_decodeMany_20 : decode cX2_decodeMany 20 = .ok (.iload_n 3, 1) := by decide +kernel
theorem dX2_decodeMany_21 : decode cX2_decodeMany 21 = .ok (.sipush 192, 3) := by decide +kernel
theorem dX2_decodeMany_24 : decode cX2_decodeMany 24 = .ok (.if_icmp .lt 18, 3) := by decide +kernel
theorem dX2_decodeMany_27 : decode cX2_decodeMany 27 = .ok (.iload_n 3, 1) := by decide +kernel
theorem dX2_decodeMany_28 : decode cX2_decodeMany 28 = .ok (.sipush 239, 3) := by decide +kernel
theorem dX2_decodeMany_31 : decode cX2_decodeMany 31 = .ok (.if_icmp .gt 11, 3) := by decide +kernel
theorem dX2_decodeMany_34 : decode cX2_decodeMany 34 = .ok (.iload 4, 2) := by decide +kernel
theorem dX2_decodeMany_36 : decode cX2_decodeMany 36 = .ok (.iload_n 2, 1) := by decide +kernel
theorem dX2_decodeMany_37 : decode cX2_decodeMany 37 = .ok (.iload_n 1, 1) := by decide +kernel
theorem dX2_decodeMany_38 : decode cX2_decodeMany 38 = .ok (.isub, 1) := by decide +kernel
theorem dX2_decodeMany_39 : decode cX2_decodeMany 39 = .ok (.if_icmp .le 5, 3) := by decide +kernel
theorem dX2_decodeMany_42 : decode cX2_decodeMany 42 = .ok (.iconst (-1), 1) := by decide +kernel
theorem dX2_decodeMany_43 : decode cX2_decodeMany 43 = .ok (.ireturn, 1) := by decide +kernel
theorem dX2_decodeMany_44 : decode cX2_decodeMany 44 = .ok (.iload 4, 2) := by decide +kernel
theorem dX2_decodeMany_46 : decode cX2_decodeMany 46 = .ok (.iconst 3, 1) := by decide +kernel
theorem dX2_decodeMany_47 : decode cX2_decodeMany 47 = .ok (.if_icmp .ne 11, 3) := by decide +kernel
theorem dX2_decodeMany_50 : decode cX2_decodeMany 50 = .ok (.iload_n 3, 1) := by decide +kernel
theorem dX2_decodeMany_51 : decode cX2_decodeMany 51 = .ok (.sipush 224, 3) := by decide +kernel
theorem dX2_decodeMany_54 : decode cX2_decodeMany 54 = .ok (.isub, 1) := by decide +kernel
theorem dX2_decodeMany_55 : decode cX2_decodeMany 55 = .ok (.goto 8, 3) := by decide +kernel
theorem dX2_decodeMany_58 : decode cX2_decodeMany 58 = .ok (.iload_n 3, 1) := by decide +kernel
theorem dX2_decodeMany_59 : decode cX2_decodeMany 59 = .ok (.sipush 192, 3) := by decide +kernel
theorem dX2_decodeMany_62 : decode cX2_decodeMany 62 = .ok (.isub, 1) := by decide +kernel
theorem dX2_decodeMany_63 : decode cX2_decodeMany 63 = .ok (.istore 5, 2) := by decide +kernel
theorem dX2_decodeMany_65 : decode cX2_decodeMany 65 = .ok (.iconst 1, 1) := by decide +kernel
theorem dX2_decodeMany_66 : decode cX2_decodeMany 66 = .ok (.istore 6, 2) := by decide +kernel
theorem dX2_decodeMany_68 : decode cX2_decodeMany 68 = .ok (.iload 6, 2) := by decide +kernel
theorem dX2_decodeMany_70 : decode cX2_decodeMany 70 = .ok (.iload 4, 2) := by decide +kernel
theorem dX2_decodeMany_72 : decode cX2_decodeMany 72 = .ok (.if_icmp .ge 51, 3) := by decide +kernel
theorem dX2_decodeMany_75 : decode cX2_decodeMany 75 = .ok (.aload_n 0, 1) := by decide +kernel
theorem dX2_decodeMany_76 : decode cX2_decodeMany 76 = .ok (.iload_n 1, 1) := by decide +kernel
theorem dX2_decodeMany_77 : decode cX2_decodeMany 77 = .ok (.iload 6, 2) := by decide +kernel
theorem dX2_decodeMany_79 : decode cX2_decodeMany 79 = .ok (.iadd, 1) := by decide +kernel
theorem dX2_decodeMany_80 : decode cX2_decodeMany 80 = .ok (.invokevirtual 33, 3) := by decide +kernel
theorem dX2_decodeMany_83 : decode cX2_decodeMany 83 = .ok (.istore 7, 2) := by decide +kernel
theorem dX2_decodeMany_85 : decode cX2_decodeMany 85 = .ok (.iload 7, 2) := by decide +kernel
theorem dX2_decodeMany_87 : decode cX2_decodeMany 87 = .ok (.sipush 128, 3) := by decide +kernel
theorem dX2_decodeMany_90 : decode cX2_decodeMany 90 = .ok (.if_icmp .lt 11, 3) := by decide +kernel
theorem dX2_decodeMany_93 : decode cX2_decodeMany 93 = .ok (.iload 7, 2) := by decide +kernel
theorem dX2_decodeMany_95 : decode cX2_decodeMany 95 = .ok (.sipush 191, 3) := by decide +kernel
theorem dX2_decodeMany_98 : decode cX2_decodeMany 98 = .ok (.if_icmp .le 5, 3) := by decide +kernel
theorem dX2_decodeMany_101 : decode cX2_decodeMany 101 = .ok (.iconst (-1), 1) := by decide +kernel
theorem dX2_decodeMany_102 : decode cX2_decodeMany 102 = .ok (.ireturn, 1) := by decide +kernel
theorem dX2_decodeMany_103 : decode cX2_decodeMany 103 = .ok (.iload 5, 2) := by decide +kernel
theorem dX2_decodeMany_105 : decode cX2_decodeMany 105 = .ok (.bipush 64, 2) := by decide +kernel
theorem dX2_decodeMany_107 : decode cX2_decodeMany 107 = .ok (.imul, 1) := by decide +kernel
theorem dX2_decodeMany_108 : decode cX2_decodeMany 108 = .ok (.iload 7, 2) := by decide +kernel
theorem dX2_decodeMany_110 : decode cX2_decodeMany 110 = .ok (.iadd, 1) := by decide +kernel
theorem dX2_decodeMany_111 : decode cX2_decodeMany 111 = .ok (.sipush 128, 3) := by decide +kernel
theorem dX2_decodeMany_114 : decode cX2_decodeMany 114 = .ok (.isub, 1) := by decide +kernel
theorem dX2_decodeMany_115 : decode cX2_decodeMany 115 = .ok (.istore 5, 2) := by decide +kernel
theorem dX2_decodeMany_117 : decode cX2_decodeMany 117 = .ok (.iinc 6 1, 3) := by decide +kernel
theorem dX2_decodeMany_120 : decode cX2_decodeMany 120 = .ok (.goto (-52), 3) := by decide +kernel
theorem dX2_decodeMany_123 : decode cX2_decodeMany 123 = .ok (.iload 5, 2) := by decide +kernel
theorem dX2_decodeMany_125 : decode cX2_decodeMany 125 = .ok (.iload 4, 2) := by decide +kernel
theorem dX2_decodeMany_127 : decode cX2_decodeMany 127 = .ok (.iconst 3, 1) := by decide +kernel
theorem dX2_decodeMany_128 : decode cX2_decodeMany 128 = .ok (.if_icmp .ne 9, 3) := by decide +kernel
theorem dX2_decodeMany_131 : decode cX2_decodeMany 131 = .ok (.sipush 2048, 3) := by decide +kernel
theorem dX2_decodeMany_134 : decode cX2_decodeMany 134 = .ok (.goto 6, 3) := by decide +kernel
theorem dX2_decodeMany_137 : decode cX2_decodeMany 137 = .ok (.sipush 128, 3) := by decide +kernel
theorem dX2_decodeMany_140 : decode cX2_decodeMany 140 = .ok (.if_icmp .lt 7, 3) := by decide +kernel
theorem dX2_decodeMany_143 : decode cX2_decodeMany 143 = .ok (.iconst 1, 1) := by decide +kernel
theorem dX2_decodeMany_144 : decode cX2_decodeMany 144 = .ok (.goto 4, 3) := by decide +kernel
theorem dX2_decodeMany_147 : decode cX2_decodeMany 147 = .ok (.iconst 0, 1) := by decide +kernel
theorem dX2_decodeMany_148 : decode cX2_decodeMany 148 = .ok (.istore 6, 2) := by decide +kernel
theorem dX2_decodeMany_150 : decode cX2_decodeMany 150 = .ok (.iload 6, 2) := by decide +kernel
theorem dX2_decodeMany_152 : decode cX2_decodeMany 152 = .ok (.ifCond .eq 21, 3) := by decide +kernel
theorem dX2_decodeMany_155 : decode cX2_decodeMany 155 = .ok (.iload 5, 2) := by decide +kernel
theorem dX2_decodeMany_157 : decode cX2_decodeMany 157 = .ok (.invokestatic 52, 3) := by decide +kernel
theorem dX2_decodeMany_160 : decode cX2_decodeMany 160 = .ok (.ifCond .eq 13, 3) := by decide +kernel
theorem dX2_decodeMany_163 : decode cX2_decodeMany 163 = .ok (.iload 5, 2) := by decide +kernel
theorem dX2_decodeMany_165 : decode cX2_decodeMany 165 = .ok (.iload 4, 2) := by decide +kernel
theorem dX2_decodeMany_167 : decode cX2_decodeMany 167 = .ok (.invokestatic 42, 3) := by decide +kernel
theorem dX2_decodeMany_170 : decode cX2_decodeMany 170 = .ok (.goto 4, 3) := by decide +kernel
theorem dX2_decodeMany_173 : decode cX2_decodeMany 173 = .ok (.iconst (-1), 1) := by decide +kernel
theorem dX2_decodeMany_174 : decode cX2_decodeMany 174 = .ok (.ireturn, 1) := by decide +kernel
set_option maxRecDepth 20000 in
theorem ggX2_decodeNumber_X5_get : GoodIn wsX2_decodeNumber wsX5_get := goodIn_r _ [5, 6, 7, 21, 22] (by decide +kernel) (by decide +kernel)
set_option maxRecDepth 20000 in
theorem gX2_decodeNumber_X5_get : GoodIn wsX2_decodeNumber (wsV RX2 33 RX5 yX5_get wsX5_get) := goodIn_app (goodIn_of _ (by decide +kernel)) ggX2_decodeNumber_X5_get
set_option maxRecDepth 20000 in
theorem ggX2_decodeNumber_X11_isLetter : GoodIn wsX2_decodeNumber wsX11_isLetter := goodIn_r _ [10, 11, 12, 13] (by decide +kernel) (by decide +kernel)
set_option maxRecDepth 20000 in
theorem gX2_decodeNumber_X11_isLetter_n52 : GoodIn wsX2_decodeNumber (wsX11_isLetter) := ggX2_decodeNumber_X11_isLetter
set_option maxRecDepth 20000 in
theorem ggX2_decodeNumber_X2_isNumbered : GoodIn wsX2_decodeNumber wsX2_isNumbered := goodIn_r _ [17] (by decide +kernel) (by decide +kernel)
set_option maxRecDepth 20000 in
theorem gX2_decodeNumber_X2_isNumbered : GoodIn wsX2_decodeNumber (va_wsS RX2 56 yX2_isNumbered wsX2_isNumbered) := goodIn_app (goodIn_of _ (by decide +kernel)) ggX2_decodeNumber_X2_isNumbered
set_option maxRecDepth 20000 in
theorem ggX2_decodeNumber_X2_found : GoodIn wsX2_decodeNumber wsX2_found := goodIn_r _ [20] (by decide +kernel) (by decide +kernel)
set_option maxRecDepth 20000 in
theorem gX2_decodeNumber_X2_found : GoodIn wsX2_decodeNumber (va_wsS RX2 42 yX2_found wsX2_found) := goodIn_app (goodIn_of _ (by decide +kernel)) ggX2_decodeNumber_X2_found
theorem dX2_decodeNumber_0 : decode cX2_decodeNumber 0 = .ok (.aload_n 0, 1) := by decide +kernel
theorem dX2_decodeNumber_1 : decode cX2_decodeNumber 1 = .ok (.iload_n 1, 1) := by decide +kernel
theorem dX2_decodeNumber_2 : decode cX2_decodeNumber 2 = .ok (.invokevirtual 33, 3) := by decide +kernel
theorem dX2_decodeNumber_5 : decode cX2_decodeNumber 5 = .ok (.bipush 38, 2) := by decide +kernel
theorem dX2_decodeNumber_7 : decode cX2_decodeNumber 7 = .ok (.if_icmp .ne 22, 3) := by decide +kernel
theorem dX2_decodeNumber_10 : decode cX2_decodeNumber 10 = .ok (.iload_n 1, 1) := by decide +kernel
theorem dX2_decodeNumber_11 : decode cX2_decodeNumber 11 = .ok (.iconst 1, 1) := by decide +kernel
theorem dX2_decodeNumber_12 : decode cX2_decodeNumber 12 = .ok (.iadd, 1) := by decide +kernel
theorem dX2_decodeNumber_13 : decode cX2_decodeNumber 13 = .ok (.iload_n 2, 1) := by decide +kernel
theorem dX2_decodeNumber_14 : decode cX2_decodeNumber 14 = .ok (.if_icmp .ge 15, 3) := by decide +kernel
theorem dX2_decodeNumber_17 : decode cX2_decodeNumber 17 = .ok (.aload_n 0, 1) := by decide +kernel
theorem dX2_decodeNumber_18 : decode cX2_decodeNumber 18 = .ok (.iload_n 1, 1) := by decide +kernel
theorem dX2_decodeNumber_19 : decode cX2_decodeNumber 19 = .ok (.iconst 1, 1) := by decide +kernel
theorem dX2_decodeNumber_20 : decode cX2_decodeNumber 20 = .ok (.iadd, 1) := by decide +kernel
theorem dX2_decodeNumber_21 : decode cX2_decodeNumber 21 = .ok (.invokevirtual 33, 3) := by decide +kernel
theorem dX2_decodeNumber_24 : decode cX2_decodeNumber 24 = .ok (.bipush 35, 2) := by decide +kernel
theorem dX2_decodeNumber_26 : decode cX2_decodeNumber 26 = .ok (.if_icmp .eq 5, 3) := by decide +kernel
theorem dX2_decodeNumber_29 : decode cX2_decodeNumber 29 = .ok (.iconst (-1), 1) := by decide +kernel
theorem dX2_decodeNumber_30 : decode cX2_decodeNumber 30 = .ok (.ireturn, 1) := by decide +kernel
theorem dX2_decodeNumber_31 : decode cX2_decodeNumber 31 = .ok (.iconst 0, 1) := by decide +kernel
theorem dX2_decodeNumber_32 : decode cX2_decodeNumber 32 = .ok (.istore_n 3, 1) := by decide +kernel
theorem dX2_decodeNumber_33 : decode cX2_decodeNumber 33 = .ok (.iload_n 1, 1) := by decide +kernel
theorem dX2_decodeNumber_34 : decode cX2_decodeNumber 34 = .ok (.iconst 2, 1) := by decide +kernel
theorem dX2_decodeNumber_35 : decode cX2_decodeNumber 35 = .ok (.iadd, 1) := by decide +kernel
theorem dX2_decodeNumber_36 : decode cX2_decodeNumber 36 = .ok (.istore 4, 2) := by decide +kernel
theorem dX2_decodeNumber_38 : decode cX2_decodeNumber 38 = .ok (.iload 4, 2) := by decide +kernel
theorem dX2_decodeNumber_40 : decode cX2_decodeNumber 40 = .ok (.iload_n 2, 1) := by decide +kernel
theorem dX2_decodeNumber_41 : decode cX2_decodeNumber 41 = .ok (.if_icmp .ge 112, 3) := by decide +kernel
theorem dX2_decodeNumber_44 : decode cX2_decodeNumber 44 = .ok (.iload 4, 2) := by decide +kernel
theorem dX2_decodeNumber_46 : decode cX2_decodeNumber 46 = .ok (.iload_n 1, 1) := by decide +kernel
theorem dX2_decodeNumber_47 : decode cX2_decodeNumber 47 = .ok (.bipush 8, 2) := by decide +kernel
theorem dX2_decodeNumber_49 : decode cX2_decodeNumber 49 = .ok (.iadd, 1) := by decide +kernel
theorem dX2_decodeNumber_50 : decode cX2_decodeNumber 50 = .ok (.if_icmp .ge 103, 3) := by decide +kernel
theorem dX2_decodeNumber_53 : decode cX2_decodeNumber 53 = .ok (.aload_n 0, 1) := by decide +kernel
theorem dX2_decodeNumber_54 : decode cX2_decodeNumber 54 = .ok (.iload 4, 2) := by decide +kernel
theorem dX2_decodeNumber_56 : decode cX2_decodeNumber 56 = .ok (.invokevirtual 33, 3) := by decide +kernel
theorem dX2_decodeNumber_59 : decode cX2_decodeNumber 59 = .ok (.istore 5, 2) := by decide +kernel
theorem dX2_decodeNumber_61 : decode cX2_decodeNumber 61 = .ok (.iload 5, 2) := by decide +kernel
theorem dX2_decodeNumber_63 : decode cX2_decodeNumber 63 = .ok (.bipush 59, 2) := by decide +kernel
theorem dX2_decodeNumber_65 : decode cX2_decodeNumber 65 = .ok (.if_icmp .ne 32, 3) := by decide +kernel
theorem dX2_decodeNumber_68 : decode cX2_decodeNumber 68 = .ok (.iload_n 3, 1) := by decide +kernel
theorem dX2_decodeNumber_69 : decode cX2_decodeNumber 69 = .ok (.invokestatic 52, 3) := by decide +kernel
theorem dX2_decodeNumber_72 : decode cX2_decodeNumber 72 = .ok (.ifCond .eq 23, 3) := by decide +kernel
theorem dX2_decodeNumber_75 : decode cX2_decodeNumber 75 = .ok (.iload_n 3, 1) := by decide +kernel
theorem dX2_decodeNumber_76 : decode cX2_decodeNumber 76 = .ok (.invokestatic 56, 3) := by decide +kernel
theorem dX2_decodeNumber_79 : decode cX2_decodeNumber 79 = .ok (.ifCond .eq 16, 3) := by decide +kernel
theorem dX2_decodeNumber_82 : decode cX2_decodeNumber 82 = .ok (.iload_n 3, 1) := by decide +kernel
theorem dX2_decodeNumber_83 : decode cX2_decodeNumber 83 = .ok (.iload 4, 2) := by decide +kernel
theorem dX2_decodeNumber_85 : decode cX2_decodeNumber 85 = .ok (.iconst 1, 1) := by decide +kernel
theorem dX2_decodeNumber_86 : decode cX2_decodeNumber 86 = .ok (.iadd, 1) := by decide +kernel
theorem dX2_decodeNumber_87 : decode cX2_decodeNumber 87 = .ok (.iload_n 1, 1) := by decide +kernel
theorem dX2_decodeNumber_88 : decode cX2_decodeNumber 88 = .ok (.isub, 1) := by decide +kernel
theorem dX2_decodeNumber_89 : decode cX2_decodeNumber 89 = .ok (.invokestatic 42, 3) := by decide +kernel
theorem dX2_decodeNumber_92 : decode cX2_decodeNumber 92 = .ok (.goto 4, 3) := by decide +kernel
theorem dX2_decodeNumber_95 : decode cX2_decodeNumber 95 = .ok (.iconst (-1), 1) := by decide +kernel
theorem dX2_decodeNumber_96 : decode cX2_decodeNumber 96 = .ok (.ireturn, 1) := by decide +kernel
theorem dX2_decodeNumber_97 : decode cX2_decodeNumber 97 = .ok (.iload_n 3, 1) := by decide +kernel
theorem dX2_decodeNumber_98 : decode cX2_decodeNumber 98 = .ok (.ifCond .ne 14, 3) := by decide +kernel
theorem dX2_decodeNumber_101 : decode cX2_decodeNumber 101 = .ok (.iload 5, 2) := by decide +kernel
theorem dX2_decodeNumber_103 : decode cX2_decodeNumber 103 = .ok (.bipush 48, 2) := by decide +kernel
theorem dX2_decodeNumber_105 : decode cX2_decodeNumber 105 = .ok (.if_icmp .ne 7, 3) := by decide +kernel
theorem dX2_decodeNumber_108 : decode cX2_decodeNumber 108 = .ok (.iconst 1, 1) := by decide +kernel
theorem dX2_decodeNumber_109 : decode cX2_decodeNumber 109 = .ok (.goto 4, 3) := by decide +kernel
theorem dX2_decodeNumber_112 : decode cX2_decodeNumber 112 = .ok (.iconst 0, 1) := by decide +kernel
theorem dX2_decodeNumber_113 : decode cX2_decodeNumber 113 = .ok (.istore 6, 2) := by decide +kernel
theorem dX2_decodeNumber_115 : decode cX2_decodeNumber 115 = .ok (.iload 5, 2) := by decide +kernel
theorem dX2_decodeNumber_117 : decode cX2_decodeNumber 117 = .ok (.bipush 48, 2) := by decide +kernel
theorem dX2_decodeNumber_119 : decode cX2_decodeNumber 119 = .ok (.if_icmp .lt 15, 3) := by decide +kernel
theorem dX2_decodeNumber_122 : decode cX2_decodeNumber 122 = .ok (.iload 5, 2) := by decide +kernel
theorem dX2_decodeNumber_124 : decode cX2_decodeNumber 124 = .ok (.bipush 57, 2) := by decide +kernel
theorem dX2_decodeNumber_126 : decode cX2_decodeNumber 126 = .ok (.if_icmp .gt 8, 3) := by decide +kernel
theorem dX2_decodeNumber_129 : decode cX2_decodeNumber 129 = .ok (.iload 6, 2) := by decide +kernel
theorem dX2_decodeNumber_131 : decode cX2_decodeNumber 131 = .ok (.ifCond .eq 5, 3) := by decide +kernel
theorem dX2_decodeNumber_134 : decode cX2_decodeNumber 134 = .ok (.iconst (-1), 1) := by decide +kernel
theorem dX2_decodeNumber_135 : decode cX2_decodeNumber 135 = .ok (.ireturn, 1) := by decide +kernel
theorem dX2_decodeNumber_136 : decode cX2_decodeNumber 136 = .ok (.iload_n 3, 1) := by decide +kernel
theorem dX2_decodeNumber_137 : decode cX2_decodeNumber 137 = .ok (.bipush 10, 2) := by decide +kernel
theorem dX2_decodeNumber_139 : decode cX2_decodeNumber 139 = .ok (.imul, 1) := by decide +kernel
theorem dX2_decodeNumber_140 : decode cX2_decodeNumber 140 = .ok (.iload 5, 2) := by decide +kernel
theorem dX2_decodeNumber_142 : decode cX2_decodeNumber 142 = .ok (.iadd, 1) := by decide +kernel
theorem dX2_decodeNumber_143 : decode cX2_decodeNumber 143 = .ok (.bipush 48, 2) := by decide +kernel
theorem dX2_decodeNumber_145 : decode cX2_decodeNumber 145 = .ok (.isub, 1) := by decide +kernel
theorem dX2_decodeNumber_146 : decode cX2_decodeNumber 146 = .ok (.istore_n 3, 1) := by decide +kernel
theorem dX2_decodeNumber_147 : decode cX2_decodeNumber 147 = .ok (.iinc 4 1, 3) := by decide +kernel
theorem dX2_decodeNumber_150 : decode cX2_decodeNumber 150 = .ok (.goto (-112), 3) := by decide +kernel
theorem dX2_decodeNumber_153 : decode cX2_decodeNumber 153 = .ok (.iconst (-1), 1) := by decide +kernel
theorem dX2_decodeNumber_154 : decode cX2_decodeNumber 154 = .ok (.ireturn, 1) := by decide +kernel
theorem dX2_isNumbered_0 : decode cX2_isNumbered 0 = .ok (.iload_n 0, 1) := by decide +kernel
theorem dX2_isNumbered_1 : decode cX2_isNumbered 1 = .ok (.sipush 128, 3) := by decide +kernel
theorem dX2_isNumbered_4 : decode cX2_isNumbered 4 = .ok (.if_icmp .ge 9, 3) := by decide +kernel
theorem dX2_isNumbered_7 : decode cX2_isNumbered 7 = .ok (.iload_n 0, 1) := by decide +kernel
theorem dX2_isNumbered_8 : decode cX2_isNumbered 8 = .ok (.bipush 38, 2) := by decide +kernel
theorem dX2_isNumbered_10 : decode cX2_isNumbered 10 = .ok (.if_icmp .ne 7, 3) := by decide +kernel
theorem dX2_isNumbered_13 : decode cX2_isNumbered 13 = .ok (.iconst 1, 1) := by decide +kernel
theorem dX2_isNumbered_14 : decode cX2_isNumbered 14 = .ok (.goto 4, 3) := by decide +kernel
theorem dX2_isNumbered_17 : decode cX2_isNumbered 17 = .ok (.iconst 0, 1) := by decide +kernel
theorem dX2_isNumbered_18 : decode cX2_isNumbered 18 = .ok (.ireturn, 1) := by decide +kernel
set_option maxRecDepth 20000 in
theorem ggX2_encode_X5_add : GoodIn wsX2_encode wsX5_add := goodIn_r _ [5, 6, 7, 36, 37] (by decide +kernel) (by decide +kernel)
set_option maxRecDepth 20000 in
theorem gX2_encode_X5_add : GoodIn wsX2_encode (wsV RX2 59 RX5 yX5_add wsX5_add) := goodIn_app (goodIn_of _ (by decide +kernel)) ggX2_encode_X5_add
set_option maxRecDepth 20000 in
theorem ggX2_encode_X2_encodeMany : GoodIn wsX2_encode wsX2_encodeMany := goodIn_r _ [11, 1, 2, 3, 4, 5, 6, 7, 36, 37] (by decide +kernel) (by decide +kernel)
set_option maxRecDepth 20000 in
theorem gX2_encode_X2_encodeMany : GoodIn wsX2_encode (va_wsS RX2 62 yX2_encodeMany wsX2_encodeMany) := goodIn_app (goodIn_of _ (by decide +kernel)) ggX2_encode_X2_encodeMany
set_option maxRecDepth 20000 in
theorem ggX2_encode_X2_isNumbered : GoodIn wsX2_encode wsX2_isNumbered := goodIn_r _ [14] (by decide +kernel) (by decide +kernel)
set_option maxRecDepth 20000 in
theorem gX2_encode_X2_isNumbered : GoodIn wsX2_encode (va_wsS RX2 56 yX2_isNumbered wsX2_isNumbered) := goodIn_app (goodIn_of _ (by decide +kernel)) ggX2_encode_X2_isNumbered
set_option maxRecDepth 20000 in
theorem ggX2_encode_X2_encodeNumber : GoodIn wsX2_encode wsX2_encodeNumber := goodIn_r _ [17, 1, 2, 3, 4, 5, 6, 7, 36, 37] (by decide +kernel) (by decide +kernel)
set_option maxRecDepth 20000 in
theorem gX2_encode_X2_encodeNumber : GoodIn wsX2_encode (va_wsS RX2 66 yX2_encodeNumber wsX2_encodeNumber) := goodIn_app (goodIn_of _ (by decide +kernel)) ggX2_encode_X2_encodeNumber
set_option maxRecDepth 20000 in
theorem ggX2_encode_X2_toldCode : GoodIn wsX2_encode wsX2_toldCode := goodIn_r _ [21, 22, 23, 38, 39] (by decide +kernel) (by decide +kernel)
set_option maxRecDepth 20000 in
theorem gX2_encode_X2_toldCode : GoodIn wsX2_encode (wsV RX2 21 RX2 yX2_toldCode wsX2_toldCode) := goodIn_app (goodIn_of _ (by decide +kernel)) ggX2_encode_X2_toldCode
set_option maxRecDepth 20000 in
theorem ggX2_encode_X10_byteFor : GoodIn wsX2_encode wsX10_byteFor := goodIn_r _ [28, 29, 30, 31, 32, 27, 33, 34, 35, 40, 41, 42, 43] (by decide +kernel) (by decide +kernel)
set_option maxRecDepth 20000 in
theorem gX2_encode_X10_byteFor : GoodIn wsX2_encode (wsV RX2 69 RX10 yX10_byteFor wsX10_byteFor) := goodIn_app (goodIn_of _ (by decide +kernel)) ggX2_encode_X10_byteFor
theorem dX2_encode_0 : decode cX2_encode 0 = .ok (.iload_n 1, 1) := by decide +kernel
theorem dX2_encode_1 : decode cX2_encode 1 = .ok (.tableswitch 100 0 3 #[31, 52, 73, 79], 31) := by decide +kernel
theorem dX2_encode_32 : decode cX2_encode 32 = .ok (.iload_n 2, 1) := by decide +kernel
theorem dX2_encode_33 : decode cX2_encode 33 = .ok (.sipush 128, 3) := by decide +kernel
theorem dX2_encode_36 : decode cX2_encode 36 = .ok (.if_icmp .ge 15, 3) := by decide +kernel
theorem dX2_encode_39 : decode cX2_encode 39 = .ok (.aload_n 3, 1) := by decide +kernel
theorem dX2_encode_40 : decode cX2_encode 40 = .ok (.iload_n 2, 1) := by decide +kernel
theorem dX2_encode_41 : decode cX2_encode 41 = .ok (.invokevirtual 59, 3) := by decide +kernel
theorem dX2_encode_44 : decode cX2_encode 44 = .ok (.ifCond .eq 7, 3) := by decide +kernel
theorem dX2_encode_47 : decode cX2_encode 47 = .ok (.iconst 1, 1) := by decide +kernel
theorem dX2_encode_48 : decode cX2_encode 48 = .ok (.goto 4, 3) := by decide +kernel
theorem dX2_encode_51 : decode cX2_encode 51 = .ok (.iconst 0, 1) := by decide +kernel
theorem dX2_encode_52 : decode cX2_encode 52 = .ok (.ireturn, 1) := by decide +kernel
theorem dX2_encode_53 : decode cX2_encode 53 = .ok (.iload_n 2, 1) := by decide +kernel
theorem dX2_encode_54 : decode cX2_encode 54 = .ok (.sipush 256, 3) := by decide +kernel
theorem dX2_encode_57 : decode cX2_encode 57 = .ok (.if_icmp .ge 15, 3) := by decide +kernel
theorem dX2_encode_60 : decode cX2_encode 60 = .ok (.aload_n 3, 1) := by decide +kernel
theorem dX2_encode_61 : decode cX2_encode 61 = .ok (.iload_n 2, 1) := by decide +kernel
theorem dX2_encode_62 : decode cX2_encode 62 = .ok (.invokevirtual 59, 3) := by decide +kernel
theorem dX2_encode_65 : decode cX2_encode 65 = .ok (.ifCond .eq 7, 3) := by decide +kernel
theorem dX2_encode_68 : decode cX2_encode 68 = .ok (.iconst 1, 1) := by decide +kernel
theorem dX2_encode_69 : decode cX2_encode 69 = .ok (.goto 4, 3) := by decide +kernel
theorem dX2_encode_72 : decode cX2_encode 72 = .ok (.iconst 0, 1) := by decide +kernel
theorem dX2_encode_73 : decode cX2_encode 73 = .ok (.ireturn, 1) := by decide +kernel
theorem dX2_encode_74 : decode cX2_encode 74 = .ok (.iload_n 2, 1) := by decide +kernel
theorem dX2_encode_75 : decode cX2_encode 75 = .ok (.aload_n 3, 1) := by decide +kernel
theorem dX2_encode_76 : decode cX2_encode 76 = .ok (.invokestatic 62, 3) := by decide +kernel
theorem dX2_encode_79 : decode cX2_encode 79 = .ok (.ireturn, 1) := by decide +kernel
theorem dX2_encode_80 : decode cX2_encode 80 = .ok (.iload_n 2, 1) := by decide +kernel
theorem dX2_encode_81 : decode cX2_encode 81 = .ok (.invokestatic 56, 3) := by decide +kernel
theorem dX2_encode_84 : decode cX2_encode 84 = .ok (.ifCond .eq 11, 3) := by decide +kernel
theorem dX2_encode_87 : decode cX2_encode 87 = .ok (.iload_n 2, 1) := by decide +kernel
theorem dX2_encode_88 : decode cX2_encode 88 = .ok (.aload_n 3, 1) := by decide +kernel
theorem dX2_encode_89 : decode cX2_encode 89 = .ok (.invokestatic 66, 3) := by decide +kernel
theorem dX2_encode_92 : decode cX2_encode 92 = .ok (.goto 8, 3) := by decide +kernel
theorem dX2_encode_95 : decode cX2_encode 95 = .ok (.aload_n 3, 1) := by decide +kernel
theorem dX2_encode_96 : decode cX2_encode 96 = .ok (.iload_n 2, 1) := by decide +kernel
theorem dX2_encode_97 : decode cX2_encode 97 = .ok (.invokevirtual 59, 3) := by decide +kernel
theorem dX2_encode_100 : decode cX2_encode 100 = .ok (.ireturn, 1) := by decide +kernel
theorem dX2_encode_101 : decode cX2_encode 101 = .ok (.aload_n 0, 1) := by decide +kernel
theorem dX2_encode_102 : decode cX2_encode 102 = .ok (.iload_n 1, 1) := by decide +kernel
theorem dX2_encode_103 : decode cX2_encode 103 = .ok (.invokevirtual 21, 3) := by decide +kernel
theorem dX2_encode_106 : decode cX2_encode 106 = .ok (.astore 4, 2) := by decide +kernel
theorem dX2_encode_108 : decode cX2_encode 108 = .ok (.aload 4, 2) := by decide +kernel
theorem dX2_encode_110 : decode cX2_encode 110 = .ok (.ifnonnull 7, 3) := by decide +kernel
theorem dX2_encode_113 : decode cX2_encode 113 = .ok (.iconst (-1), 1) := by decide +kernel
theorem dX2_encode_114 : decode cX2_encode 114 = .ok (.goto 9, 3) := by decide +kernel
theorem dX2_encode_117 : decode cX2_encode 117 = .ok (.aload 4, 2) := by decide +kernel
theorem dX2_encode_119 : decode cX2_encode 119 = .ok (.iload_n 2, 1) := by decide +kernel
theorem dX2_encode_120 : decode cX2_encode 120 = .ok (.invokevirtual 69, 3) := by decide +kernel
theorem dX2_encode_123 : decode cX2_encode 123 = .ok (.istore 5, 2) := by decide +kernel
theorem dX2_encode_125 : decode cX2_encode 125 = .ok (.iload 5, 2) := by decide +kernel
theorem dX2_encode_127 : decode cX2_encode 127 = .ok (.iconst (-1), 1) := by decide +kernel
theorem dX2_encode_128 : decode cX2_encode 128 = .ok (.if_icmp .eq 16, 3) := by decide +kernel
theorem dX2_encode_131 : decode cX2_encode 131 = .ok (.aload_n 3, 1) := by decide +kernel
theorem dX2_encode_132 : decode cX2_encode 132 = .ok (.iload 5, 2) := by decide +kernel
theorem dX2_encode_134 : decode cX2_encode 134 = .ok (.invokevirtual 59, 3) := by decide +kernel
theorem dX2_encode_137 : decode cX2_encode 137 = .ok (.ifCond .eq 7, 3) := by decide +kernel
theorem dX2_encode_140 : decode cX2_encode 140 = .ok (.iconst 1, 1) := by decide +kernel
theorem dX2_encode_141 : decode cX2_encode 141 = .ok (.goto 4, 3) := by decide +kernel
theorem dX2_encode_144 : decode cX2_encode 144 = .ok (.iconst 0, 1) := by decide +kernel
theorem dX2_encode_145 : decode cX2_encode 145 = .ok (.ireturn, 1) := by decide +kernel
set_option maxRecDepth 20000 in
theorem ggX2_encodeMany_X5_add : GoodIn wsX2_encodeMany wsX5_add := goodIn_r _ [5, 6, 7, 8, 9] (by decide +kernel) (by decide +kernel)
set_option maxRecDepth 20000 in
theorem gX2_encodeMany_X5_add : GoodIn wsX2_encodeMany (wsV RX2 59 RX5 yX5_add wsX5_add) := goodIn_app (goodIn_of _ (by decide +kernel)) ggX2_encodeMany_X5_add
theorem dX2_encodeMany_0 : decode cX2_encodeMany 0 = .ok (.iload_n 0, 1) := by decide +kernel
theorem dX2_encodeMany_1 : decode cX2_encodeMany 1 = .ok (.sipush 128, 3) := by decide +kernel
theorem dX2_encodeMany_4 : decode cX2_encodeMany 4 = .ok (.if_icmp .ge 9, 3) := by decide +kernel
theorem dX2_encodeMany_7 : decode cX2_encodeMany 7 = .ok (.aload_n 1, 1) := by decide +kernel
theorem dX2_encodeMany_8 : decode cX2_encodeMany 8 = .ok (.iload_n 0, 1) := by decide +kernel
theorem dX2_encodeMany_9 : decode cX2_encodeMany 9 = .ok (.invokevirtual 59, 3) := by decide +kernel
theorem dX2_encodeMany_12 : decode cX2_encodeMany 12 = .ok (.ireturn, 1) := by decide +kernel
theorem dX2_encodeMany_13 : decode cX2_encodeMany 13 = .ok (.iload_n 0, 1) := by decide +kernel
theorem dX2_encodeMany_14 : decode cX2_encodeMany 14 = .ok (.sipush 2048, 3) := by decide +kernel
theorem dX2_encodeMany_17 : decode cX2_encodeMany 17 = .ok (.if_icmp .ge 19, 3) := by decide +kernel
theorem dX2_encodeMany_20 : decode cX2_encodeMany 20 = .ok (.aload_n 1, 1) := by decide +kernel
theorem dX2_encodeMany_21 : decode cX2_encodeMany 21 = .ok (.sipush 192, 3) := by decide +kernel
theorem dX2_encodeMany_24 : decode cX2_encodeMany 24 = .ok (.iload_n 0, 1) := by decide +kernel
theorem dX2_encodeMany_25 : decode cX2_encodeMany 25 = .ok (.bipush 6, 2) := by decide +kernel
theorem dX2_encodeMany_27 : decode cX2_encodeMany 27 = .ok (.ishr, 1) := by decide +kernel
theorem dX2_encodeMany_28 : decode cX2_encodeMany 28 = .ok (.iadd, 1) := by decide +kernel
theorem dX2_encodeMany_29 : decode cX2_encodeMany 29 = .ok (.invokevirtual 59, 3) := by decide +kernel
theorem dX2_encodeMany_32 : decode cX2_encodeMany 32 = .ok (.istore_n 2, 1) := by decide +kernel
theorem dX2_encodeMany_33 : decode cX2_encodeMany 33 = .ok (.goto 42, 3) := by decide +kernel
theorem dX2_encodeMany_36 : decode cX2_encodeMany 36 = .ok (.aload_n 1, 1) := by decide +kernel
theorem dX2_encodeMany_37 : decode cX2_encodeMany 37 = .ok (.sipush 224, 3) := by decide +kernel
theorem dX2_encodeMany_40 : decode cX2_encodeMany 40 = .ok (.iload_n 0, 1) := by decide +kernel
theorem dX2_encodeMany_41 : decode cX2_encodeMany 41 = .ok (.bipush 12, 2) := by decide +kernel
theorem dX2_encodeMany_43 : decode cX2_encodeMany 43 = .ok (.ishr, 1) := by decide +kernel
theorem dX2_encodeMany_44 : decode cX2_encodeMany 44 = .ok (.iadd, 1) := by decide +kernel
theorem dX2_encodeMany_45 : decode cX2_encodeMany 45 = .ok (.invokevirtual 59, 3) := by decide +kernel
theorem dX2_encodeMany_48 : decode cX2_encodeMany 48 = .ok (.ifCond .eq 25, 3) := by decide +kernel
theorem dX2_encodeMany_51 : decode cX2_encodeMany 51 = .ok (.aload_n 1, 1) := by decide +kernel
theorem dX2_encodeMany_52 : decode cX2_encodeMany 52 = .ok (.sipush 128, 3) := by decide +kernel
theorem dX2_encodeMany_55 : decode cX2_encodeMany 55 = .ok (.iload_n 0, 1) := by decide +kernel
theorem dX2_encodeMany_56 : decode cX2_encodeMany 56 = .ok (.bipush 6, 2) := by decide +kernel
theorem dX2_encodeMany_58 : decode cX2_encodeMany 58 = .ok (.ishr, 1) := by decide +kernel
theorem dX2_encodeMany_59 : decode cX2_encodeMany 59 = .ok (.bipush 63, 2) := by decide +kernel
theorem dX2_encodeMany_61 : decode cX2_encodeMany 61 = .ok (.iand, 1) := by decide +kernel
theorem dX2_encodeMany_62 : decode cX2_encodeMany 62 = .ok (.iadd, 1) := by decide +kernel
theorem dX2_encodeMany_63 : decode cX2_encodeMany 63 = .ok (.invokevirtual 59, 3) := by decide +kernel
theorem dX2_encodeMany_66 : decode cX2_encodeMany 66 = .ok (.ifCond .eq 7, 3) := by decide +kernel
theorem dX2_encodeMany_69 : decode cX2_encodeMany 69 = .ok (.iconst 1, 1) := by decide +kernel
theorem dX2_encodeMany_70 : decode cX2_encodeMany 70 = .ok (.goto 4, 3) := by decide +kernel
theorem dX2_encodeMany_73 : decode cX2_encodeMany 73 = .ok (.iconst 0, 1) := by decide +kernel
theorem dX2_encodeMany_74 : decode cX2_encodeMany 74 = .ok (.istore_n 2, 1) := by decide +kernel
theorem dX2_encodeMany_75 : decode cX2_encodeMany 75 = .ok (.iload_n 2, 1) := by decide +kernel
theorem dX2_encodeMany_76 : decode cX2_encodeMany 76 = .ok (.ifCond .eq 22, 3) := by decide +kernel
theorem dX2_encodeMany_79 : decode cX2_encodeMany 79 = .ok (.aload_n 1, 1) := by decide +kernel
theorem dX2_encodeMany_80 : decode cX2_encodeMany 80 = .ok (.sipush 128, 3) := by decide +kernel
theorem dX2_encodeMany_83 : decode cX2_encodeMany 83 = .ok (.iload_n 0, 1) := by decide +kernel
theorem dX2_encodeMany_84 : decode cX2_encodeMany 84 = .ok (.bipush 63, 2) := by decide +kernel
theorem dX2_encodeMany_86 : decode cX2_encodeMany 86 = .ok (.iand, 1) := by decide +kernel
theorem dX2_encodeMany_87 : decode cX2_encodeMany 87 = .ok (.iadd, 1) := by decide +kernel
theorem dX2_encodeMany_88 : decode cX2_encodeMany 88 = .ok (.invokevirtual 59, 3) := by decide +kernel
theorem dX2_encodeMany_91 : decode cX2_encodeMany 91 = .ok (.ifCond .eq 7, 3) := by decide +kernel
theorem dX2_encodeMany_94 : decode cX2_encodeMany 94 = .ok (.iconst 1, 1) := by decide +kernel
theorem dX2_encodeMany_95 : decode cX2_encodeMany 95 = .ok (.goto 4, 3) := by decide +kernel
theorem dX2_encodeMany_98 : decode cX2_encodeMany 98 = .ok (.iconst 0, 1) := by decide +kernel
theorem dX2_encodeMany_99 : decode cX2_encodeMany 99 = .ok (.ireturn, 1) := by decide +kernel
set_option maxRecDepth 20000 in
theorem ggX2_encodeNumber_X5_add : GoodIn wsX2_encodeNumber wsX5_add := goodIn_r _ [5, 6, 7, 8, 9] (by decide +kernel) (by decide +kernel)
set_option maxRecDepth 20000 in
theorem gX2_encodeNumber_X5_add : GoodIn wsX2_encodeNumber (wsV RX2 59 RX5 yX5_add wsX5_add) := goodIn_app (goodIn_of _ (by decide +kernel)) ggX2_encodeNumber_X5_add
theorem dX2_encodeNumber_0 : decode cX2_encodeNumber 0 = .ok (.aload_n 1, 1) := by decide +kernel
theorem dX2_encodeNumber_1 : decode cX2_encodeNumber 1 = .ok (.bipush 38, 2) := by decide +kernel
theorem dX2_encodeNumber_3 : decode cX2_encodeNumber 3 = .ok (.invokevirtual 59, 3) := by decide +kernel
theorem dX2_encodeNumber_6 : decode cX2_encodeNumber 6 = .ok (.ifCond .eq 16, 3) := by decide +kernel
theorem dX2_encodeNumber_9 : decode cX2_encodeNumber 9 = .ok (.aload_n 1, 1) := by decide +kernel
theorem dX2_encodeNumber_10 : decode cX2_encodeNumber 10 = .ok (.bipush 35, 2) := by decide +kernel
theorem dX2_encodeNumber_12 : decode cX2_encodeNumber 12 = .ok (.invokevirtual 59, 3) := by decide +kernel
theorem dX2_encodeNumber_15 : decode cX2_encodeNumber 15 = .ok (.ifCond .eq 7, 3) := by decide +kernel
theorem dX2_encodeNumber_18 : decode cX2_encodeNumber 18 = .ok (.iconst 1, 1) := by decide +kernel
theorem dX2_encodeNumber_19 : decode cX2_encodeNumber 19 = .ok (.goto 4, 3) := by decide +kernel
theorem dX2_encodeNumber_22 : decode cX2_encodeNumber 22 = .ok (.iconst 0, 1) := by decide +kernel
theorem dX2_encodeNumber_23 : decode cX2_encodeNumber 23 = .ok (.istore_n 2, 1) := by decide +kernel
theorem dX2_encodeNumber_24 : decode cX2_encodeNumber 24 = .ok (.iconst 0, 1) := by decide +kernel
theorem dX2_encodeNumber_25 : decode cX2_encodeNumber 25 = .ok (.istore_n 3, 1) := by decide +kernel
theorem dX2_encodeNumber_26 : decode cX2_encodeNumber 26 = .ok (.sipush 10000, 3) := by decide +kernel
theorem dX2_encodeNumber_29 : decode cX2_encodeNumber 29 = .ok (.istore 4, 2) := by decide +kernel
theorem dX2_encodeNumber_31 : decode cX2_encodeNumber 31 = .ok (.iload 4, 2) := by decide +kernel
theorem dX2_encodeNumber_33 : decode cX2_encodeNumber 33 = .ok (.ifCond .le 63, 3) := by decide +kernel
theorem dX2_encodeNumber_36 : decode cX2_encodeNumber 36 = .ok (.iload_n 0, 1) := by decide +kernel
theorem dX2_encodeNumber_37 : decode cX2_encodeNumber 37 = .ok (.iload 4, 2) := by decide +kernel
theorem dX2_encodeNumber_39 : decode cX2_encodeNumber 39 = .ok (.idiv, 1) := by decide +kernel
theorem dX2_encodeNumber_40 : decode cX2_encodeNumber 40 = .ok (.bipush 10, 2) := by decide +kernel
theorem dX2_encodeNumber_42 : decode cX2_encodeNumber 42 = .ok (.irem, 1) := by decide +kernel
theorem dX2_encodeNumber_43 : decode cX2_encodeNumber 43 = .ok (.istore 5, 2) := by decide +kernel
theorem dX2_encodeNumber_45 : decode cX2_encodeNumber 45 = .ok (.iload_n 3, 1) := by decide +kernel
theorem dX2_encodeNumber_46 : decode cX2_encodeNumber 46 = .ok (.ifCond .ne 8, 3) := by decide +kernel
theorem dX2_encodeNumber_49 : decode cX2_encodeNumber 49 = .ok (.iload 5, 2) := by decide +kernel
theorem dX2_encodeNumber_51 : decode cX2_encodeNumber 51 = .ok (.ifCond .eq 7, 3) := by decide +kernel
theorem dX2_encodeNumber_54 : decode cX2_encodeNumber 54 = .ok (.iconst 1, 1) := by decide +kernel
theorem dX2_encodeNumber_55 : decode cX2_encodeNumber 55 = .ok (.goto 4, 3) := by decide +kernel
theorem dX2_encodeNumber_58 : decode cX2_encodeNumber 58 = .ok (.iconst 0, 1) := by decide +kernel
theorem dX2_encodeNumber_59 : decode cX2_encodeNumber 59 = .ok (.istore_n 3, 1) := by decide +kernel
theorem dX2_encodeNumber_60 : decode cX2_encodeNumber 60 = .ok (.iload_n 3, 1) := by decide +kernel
theorem dX2_encodeNumber_61 : decode cX2_encodeNumber 61 = .ok (.ifCond .eq 25, 3) := by decide +kernel
theorem dX2_encodeNumber_64 : decode cX2_encodeNumber 64 = .ok (.iload_n 2, 1) := by decide +kernel
theorem dX2_encodeNumber_65 : decode cX2_encodeNumber 65 = .ok (.ifCond .eq 19, 3) := by decide +kernel
theorem dX2_encodeNumber_68 : decode cX2_encodeNumber 68 = .ok (.aload_n 1, 1) := by decide +kernel
theorem dX2_encodeNumber_69 : decode cX2_encodeNumber 69 = .ok (.bipush 48, 2) := by decide +kernel
theorem dX2_encodeNumber_71 : decode cX2_encodeNumber 71 = .ok (.iload 5, 2) := by decide +kernel
theorem dX2_encodeNumber_73 : decode cX2_encodeNumber 73 = .ok (.iadd, 1) := by decide +kernel
theorem dX2_encodeNumber_74 : decode cX2_encodeNumber 74 = .ok (.invokevirtual 59, 3) := by decide +kernel
theorem dX2_encodeNumber_77 : decode cX2_encodeNumber 77 = .ok (.ifCond .eq 7, 3) := by decide +kernel
theorem dX2_encodeNumber_80 : decode cX2_encodeNumber 80 = .ok (.iconst 1, 1) := by decide +kernel
theorem dX2_encodeNumber_81 : decode cX2_encodeNumber 81 = .ok (.goto 4, 3) := by decide +kernel
theorem dX2_encodeNumber_84 : decode cX2_encodeNumber 84 = .ok (.iconst 0, 1) := by decide +kernel
theorem dX2_encodeNumber_85 : decode cX2_encodeNumber 85 = .ok (.istore_n 2, 1) := by decide +kernel
theorem dX2_encodeNumber_86 : decode cX2_encodeNumber 86 = .ok (.iload 4, 2) := by decide +kernel
theorem dX2_encodeNumber_88 : decode cX2_encodeNumber 88 = .ok (.bipush 10, 2) := by decide +kernel
theorem dX2_encodeNumber_90 : decode cX2_encodeNumber 90 = .ok (.idiv, 1) := by decide +kernel
theorem dX2_encodeNumber_91 : decode cX2_encodeNumber 91 = .ok (.istore 4, 2) := by decide +kernel
theorem dX2_encodeNumber_93 : decode cX2_encodeNumber 93 = .ok (.goto (-62), 3) := by decide +kernel
theorem dX2_encodeNumber_96 : decode cX2_encodeNumber 96 = .ok (.iload_n 2, 1) := by decide +kernel
theorem dX2_encodeNumber_97 : decode cX2_encodeNumber 97 = .ok (.ifCond .eq 16, 3) := by decide +kernel
theorem dX2_encodeNumber_100 : decode cX2_encodeNumber 100 = .ok (.aload_n 1, 1) := by decide +kernel
theorem dX2_encodeNumber_101 : decode cX2_encodeNumber 101 = .ok (.bipush 59, 2) := by decide +kernel
theorem dX2_encodeNumber_103 : decode cX2_encodeNumber 103 = .ok (.invokevirtual 59, 3) := by decide +kernel
theorem dX2_encodeNumber_106 : decode cX2_encodeNumber 106 = .ok (.ifCond .eq 7, 3) := by decide +kernel
theorem dX2_encodeNumber_109 : decode cX2_encodeNumber 109 = .ok (.iconst 1, 1) := by decide +kernel
theorem dX2_encodeNumber_110 : decode cX2_encodeNumber 110 = .ok (.goto 4, 3) := by decide +kernel
theorem dX2_encodeNumber_113 : decode cX2_encodeNumber 113 = .ok (.iconst 0, 1) := by decide +kernel
theorem dX2_encodeNumber_114 : decode cX2_encodeNumber 114 = .ok (.ireturn, 1) := by decide +kernel
set_option maxRecDepth 20000 in
theorem ggX2_neverLost_X2_isWritten : GoodIn wsX2_neverLost wsX2_isWritten := goodIn_r _ [5, 6, 7, 8, 4, 9, 10, 11, 12, 13, 14, 15, 16, 17, 18, 19, 20, 21, 22, 23, 24, 25, 26, 27] (by decide +kernel) (by decide +kernel)
set_option maxRecDepth 20000 in
theorem gX2_neverLost_X2_isWritten : GoodIn wsX2_neverLost (wsV RX2 72 RX2 yX2_isWritten wsX2_isWritten) := goodIn_app (goodIn_of _ (by decide +kernel)) ggX2_neverLost_X2_isWritten
set_option maxRecDepth 20000 in
theorem ggX2_neverLost_X2_letterAlone : GoodIn wsX2_neverLost wsX2_letterAlone := goodIn_r _ [9, 10, 11, 12, 4, 13, 14, 15, 16, 17, 18, 19, 20, 21, 22, 23, 24, 25, 26, 27] (by decide +kernel) (by decide +kernel)
set_option maxRecDepth 20000 in
theorem gX2_neverLost_X2_letterAlone : GoodIn wsX2_neverLost (wsV RX2 38 RX2 yX2_letterAlone wsX2_letterAlone) := goodIn_app (goodIn_of _ (by decide +kernel)) ggX2_neverLost_X2_letterAlone
theorem dX2_neverLost_0 : decode cX2_neverLost 0 = .ok (.iload_n 1, 1) := by decide +kernel
theorem dX2_neverLost_1 : decode cX2_neverLost 1 = .ok (.iload_n 2, 1) := by decide +kernel
theorem dX2_neverLost_2 : decode cX2_neverLost 2 = .ok (.if_icmp .ne 5, 3) := by decide +kernel
theorem dX2_neverLost_5 : decode cX2_neverLost 5 = .ok (.iconst 1, 1) := by decide +kernel
theorem dX2_neverLost_6 : decode cX2_neverLost 6 = .ok (.ireturn, 1) := by decide +kernel
theorem dX2_neverLost_7 : decode cX2_neverLost 7 = .ok (.iconst 0, 1) := by decide +kernel
theorem dX2_neverLost_8 : decode cX2_neverLost 8 = .ok (.istore_n 3, 1) := by decide +kernel
theorem dX2_neverLost_9 : decode cX2_neverLost 9 = .ok (.iload_n 3, 1) := by decide +kernel
theorem dX2_neverLost_10 : decode cX2_neverLost 10 = .ok (.sipush 256, 3) := by decide +kernel
theorem dX2_neverLost_13 : decode cX2_neverLost 13 = .ok (.if_icmp .ge 30, 3) := by decide +kernel
theorem dX2_neverLost_16 : decode cX2_neverLost 16 = .ok (.aload_n 0, 1) := by decide +kernel
theorem dX2_neverLost_17 : decode cX2_neverLost 17 = .ok (.iload_n 1, 1) := by decide +kernel
theorem dX2_neverLost_18 : decode cX2_neverLost 18 = .ok (.iload_n 3, 1) := by decide +kernel
theorem dX2_neverLost_19 : decode cX2_neverLost 19 = .ok (.invokevirtual 72, 3) := by decide +kernel
theorem dX2_neverLost_22 : decode cX2_neverLost 22 = .ok (.ifCond .eq 15, 3) := by decide +kernel
theorem dX2_neverLost_25 : decode cX2_neverLost 25 = .ok (.aload_n 0, 1) := by decide +kernel
theorem dX2_neverLost_26 : decode cX2_neverLost 26 = .ok (.iload_n 2, 1) := by decide +kernel
theorem dX2_neverLost_27 : decode cX2_neverLost 27 = .ok (.iload_n 3, 1) := by decide +kernel
theorem dX2_neverLost_28 : decode cX2_neverLost 28 = .ok (.invokevirtual 38, 3) := by decide +kernel
theorem dX2_neverLost_31 : decode cX2_neverLost 31 = .ok (.iconst (-1), 1) := by decide +kernel
theorem dX2_neverLost_32 : decode cX2_neverLost 32 = .ok (.if_icmp .ne 5, 3) := by decide +kernel
theorem dX2_neverLost_35 : decode cX2_neverLost 35 = .ok (.iconst 0, 1) := by decide +kernel
theorem dX2_neverLost_36 : decode cX2_neverLost 36 = .ok (.ireturn, 1) := by decide +kernel
theorem dX2_neverLost_37 : decode cX2_neverLost 37 = .ok (.iinc 3 1, 3) := by decide +kernel
theorem dX2_neverLost_40 : decode cX2_neverLost 40 = .ok (.goto (-31), 3) := by decide +kernel
theorem dX2_neverLost_43 : decode cX2_neverLost 43 = .ok (.iconst 1, 1) := by decide +kernel
theorem dX2_neverLost_44 : decode cX2_neverLost 44 = .ok (.ireturn, 1) := by decide +kernel
set_option maxRecDepth 20000 in
theorem ggX2_isWritten_X2_letterAlone : GoodIn wsX2_isWritten wsX2_letterAlone := goodIn_r _ [5, 6, 7, 8, 4, 9, 10, 11, 12, 13, 14, 15, 16, 17, 18, 19, 20, 21, 22, 23] (by decide +kernel) (by decide +kernel)
set_option maxRecDepth 20000 in
theorem gX2_isWritten_X2_letterAlone : GoodIn wsX2_isWritten (wsV RX2 38 RX2 yX2_letterAlone wsX2_letterAlone) := goodIn_app (goodIn_of _ (by decide +kernel)) ggX2_isWritten_X2_letterAlone
theorem dX2_isWritten_0 : decode cX2_isWritten 0 = .ok (.iload_n 1, 1) := by decide +kernel
theorem dX2_isWritten_1 : decode cX2_isWritten 1 = .ok (.lookupswitch 67 #[(2, 27), (3, 54)], 27) := by decide +kernel
theorem dX2_isWritten_28 : decode cX2_isWritten 28 = .ok (.iload_n 2, 1) := by decide +kernel
theorem dX2_isWritten_29 : decode cX2_isWritten 29 = .ok (.sipush 192, 3) := by decide +kernel
theorem dX2_isWritten_32 : decode cX2_isWritten 32 = .ok (.if_icmp .lt 17, 3) := by decide +kernel
theorem dX2_isWritten_35 : decode cX2_isWritten 35 = .ok (.iload_n 2, 1) := by decide +kernel
theorem dX2_isWritten_36 : decode cX2_isWritten 36 = .ok (.sipush 193, 3) := by decide +kernel
theorem dX2_isWritten_39 : decode cX2_isWritten 39 = .ok (.if_icmp .le 14, 3) := by decide +kernel
theorem dX2_isWritten_42 : decode cX2_isWritten 42 = .ok (.iload_n 2, 1) := by decide +kernel
theorem dX2_isWritten_43 : decode cX2_isWritten 43 = .ok (.sipush 240, 3) := by decide +kernel
theorem dX2_isWritten_46 : decode cX2_isWritten 46 = .ok (.if_icmp .ge 7, 3) := by decide +kernel
theorem dX2_isWritten_49 : decode cX2_isWritten 49 = .ok (.iconst 1, 1) := by decide +kernel
theorem dX2_isWritten_50 : decode cX2_isWritten 50 = .ok (.goto 4, 3) := by decide +kernel
theorem dX2_isWritten_53 : decode cX2_isWritten 53 = .ok (.iconst 0, 1) := by decide +kernel
theorem dX2_isWritten_54 : decode cX2_isWritten 54 = .ok (.ireturn, 1) := by decide +kernel
theorem dX2_isWritten_55 : decode cX2_isWritten 55 = .ok (.iload_n 2, 1) := by decide +kernel
theorem dX2_isWritten_56 : decode cX2_isWritten 56 = .ok (.sipush 128, 3) := by decide +kernel
theorem dX2_isWritten_59 : decode cX2_isWritten 59 = .ok (.if_icmp .ge 7, 3) := by decide +kernel
theorem dX2_isWritten_62 : decode cX2_isWritten 62 = .ok (.iconst 1, 1) := by decide +kernel
theorem dX2_isWritten_63 : decode cX2_isWritten 63 = .ok (.goto 4, 3) := by decide +kernel
theorem dX2_isWritten_66 : decode cX2_isWritten 66 = .ok (.iconst 0, 1) := by decide +kernel
theorem dX2_isWritten_67 : decode cX2_isWritten 67 = .ok (.ireturn, 1) := by decide +kernel
theorem dX2_isWritten_68 : decode cX2_isWritten 68 = .ok (.aload_n 0, 1) := by decide +kernel
theorem dX2_isWritten_69 : decode cX2_isWritten 69 = .ok (.iload_n 1, 1) := by decide +kernel
theorem dX2_isWritten_70 : decode cX2_isWritten 70 = .ok (.iload_n 2, 1) := by decide +kernel
theorem dX2_isWritten_71 : decode cX2_isWritten 71 = .ok (.invokevirtual 38, 3) := by decide +kernel
theorem dX2_isWritten_74 : decode cX2_isWritten 74 = .ok (.iconst (-1), 1) := by decide +kernel
theorem dX2_isWritten_75 : decode cX2_isWritten 75 = .ok (.if_icmp .eq 7, 3) := by decide +kernel
theorem dX2_isWritten_78 : decode cX2_isWritten 78 = .ok (.iconst 1, 1) := by decide +kernel
theorem dX2_isWritten_79 : decode cX2_isWritten 79 = .ok (.goto 4, 3) := by decide +kernel
theorem dX2_isWritten_82 : decode cX2_isWritten 82 = .ok (.iconst 0, 1) := by decide +kernel
theorem dX2_isWritten_83 : decode cX2_isWritten 83 = .ok (.ireturn, 1) := by decide +kernel
set_option maxRecDepth 20000 in
theorem ggX6_init_X5_init : GoodIn wsX6_init wsX5_init := goodIn_r _ [25, 26, 2, 3, 27, 28, 29, 30, 10, 31, 32, 43, 44] (by decide +kernel) (by decide +kernel)
set_option maxRecDepth 20000 in
theorem gX6_init_X5_init : GoodIn wsX6_init (wsX5_init) := ggX6_init_X5_init
set_option maxRecDepth 20000 in
theorem ggX6_init_X8_init : GoodIn wsX6_init wsX8_init := goodIn_r _ [35, 36, 2, 3, 37, 38, 39, 40, 41, 42, 57, 58, 59, 60, 61, 62] (by decide +kernel) (by decide +kernel)
set_option maxRecDepth 20000 in
theorem gX6_init_X8_init : GoodIn wsX6_init (wsX8_init) := ggX6_init_X8_init
theorem dX6_init_0 : decode cX6_init 0 = .ok (.aload_n 0, 1) := by decide +kernel
theorem dX6_init_1 : decode cX6_init 1 = .ok (.invokespecial 3, 3) := by decide +kernel
theorem dX6_init_4 : decode cX6_init 4 = .ok (.aload_n 0, 1) := by decide +kernel
theorem dX6_init_5 : decode cX6_init 5 = .ok (.new 9, 3) := by decide +kernel
theorem dX6_init_8 : decode cX6_init 8 = .ok (.dup, 1) := by decide +kernel
theorem dX6_init_9 : decode cX6_init 9 = .ok (.sipush 480, 3) := by decide +kernel
theorem dX6_init_12 : decode cX6_init 12 = .ok (.invokespecial 11, 3) := by decide +kernel
theorem dX6_init_15 : decode cX6_init 15 = .ok (.putfield 14, 3) := by decide +kernel
theorem dX6_init_18 : decode cX6_init 18 = .ok (.aload_n 0, 1) := by decide +kernel
theorem dX6_init_19 : decode cX6_init 19 = .ok (.new 9, 3) := by decide +kernel
theorem dX6_init_22 : decode cX6_init 22 = .ok (.dup, 1) := by decide +kernel
theorem dX6_init_23 : decode cX6_init 23 = .ok (.sipush 300, 3) := by decide +kernel
theorem dX6_init_26 : decode cX6_init 26 = .ok (.invokespecial 11, 3) := by decide +kernel
theorem dX6_init_29 : decode cX6_init 29 = .ok (.putfield 20, 3) := by decide +kernel
theorem dX6_init_32 : decode cX6_init 32 = .ok (.aload_n 0, 1) := by decide +kernel
theorem dX6_init_33 : decode cX6_init 33 = .ok (.new 9, 3) := by decide +kernel
theorem dX6_init_36 : decode cX6_init 36 = .ok (.dup, 1) := by decide +kernel
theorem dX6_init_37 : decode cX6_init 37 = .ok (.sipush 300, 3) := by decide +kernel
theorem dX6_init_40 : decode cX6_init 40 = .ok (.invokespecial 11, 3) := by decide +kernel
theorem dX6_init_43 : decode cX6_init 43 = .ok (.putfield 23, 3) := by decide +kernel
theorem dX6_init_46 : decode cX6_init 46 = .ok (.aload_n 0, 1) := by decide +kernel
theorem dX6_init_47 : decode cX6_init 47 = .ok (.bipush 61, 2) := by decide +kernel
theorem dX6_init_49 : decode cX6_init 49 = .ok (.newarray .int, 2) := by decide +kernel
theorem dX6_init_51 : decode cX6_init 51 = .ok (.putfield 26, 3) := by decide +kernel
theorem dX6_init_54 : decode cX6_init 54 = .ok (.aload_n 0, 1) := by decide +kernel
theorem dX6_init_55 : decode cX6_init 55 = .ok (.bipush 61, 2) := by decide +kernel
theorem dX6_init_57 : decode cX6_init 57 = .ok (.newarray .int, 2) := by decide +kernel
theorem dX6_init_59 : decode cX6_init 59 = .ok (.putfield 30, 3) := by decide +kernel
theorem dX6_init_62 : decode cX6_init 62 = .ok (.aload_n 0, 1) := by decide +kernel
theorem dX6_init_63 : decode cX6_init 63 = .ok (.bipush 61, 2) := by decide +kernel
theorem dX6_init_65 : decode cX6_init 65 = .ok (.newarray .int, 2) := by decide +kernel
theorem dX6_init_67 : decode cX6_init 67 = .ok (.putfield 33, 3) := by decide +kernel
theorem dX6_init_70 : decode cX6_init 70 = .ok (.aload_n 0, 1) := by decide +kernel
theorem dX6_init_71 : decode cX6_init 71 = .ok (.bipush 61, 2) := by decide +kernel
theorem dX6_init_73 : decode cX6_init 73 = .ok (.newarray .int, 2) := by decide +kernel
theorem dX6_init_75 : decode cX6_init 75 = .ok (.putfield 36, 3) := by decide +kernel
theorem dX6_init_78 : decode cX6_init 78 = .ok (.aload_n 0, 1) := by decide +kernel
theorem dX6_init_79 : decode cX6_init 79 = .ok (.aload_n 1, 1) := by decide +kernel
theorem dX6_init_80 : decode cX6_init 80 = .ok (.putfield 39, 3) := by decide +kernel
theorem dX6_init_83 : decode cX6_init 83 = .ok (.aload_n 0, 1) := by decide +kernel
theorem dX6_init_84 : decode cX6_init 84 = .ok (.aload_n 2, 1) := by decide +kernel
theorem dX6_init_85 : decode cX6_init 85 = .ok (.putfield 43, 3) := by decide +kernel
theorem dX6_init_88 : decode cX6_init 88 = .ok (.aload_n 0, 1) := by decide +kernel
theorem dX6_init_89 : decode cX6_init 89 = .ok (.aload_n 3, 1) := by decide +kernel
theorem dX6_init_90 : decode cX6_init 90 = .ok (.putfield 47, 3) := by decide +kernel
theorem dX6_init_93 : decode cX6_init 93 = .ok (.aload_n 0, 1) := by decide +kernel
theorem dX6_init_94 : decode cX6_init 94 = .ok (.new 51, 3) := by decide +kernel
theorem dX6_init_97 : decode cX6_init 97 = .ok (.dup, 1) := by decide +kernel
theorem dX6_init_98 : decode cX6_init 98 = .ok (.aload_n 1, 1) := by decide +kernel
theorem dX6_init_99 : decode cX6_init 99 = .ok (.aload_n 3, 1) := by decide +kernel
theorem dX6_init_100 : decode cX6_init 100 = .ok (.invokespecial 53, 3) := by decide +kernel
theorem dX6_init_103 : decode cX6_init 103 = .ok (.putfield 56, 3) := by decide +kernel
theorem dX6_init_106 : decode cX6_init 106 = .ok (.aload_n 0, 1) := by decide +kernel
theorem dX6_init_107 : decode cX6_init 107 = .ok (.iconst 0, 1) := by decide +kernel
theorem dX6_init_108 : decode cX6_init 108 = .ok (.putfield 60, 3) := by decide +kernel
theorem dX6_init_111 : decode cX6_init 111 = .ok (.return_, 1) := by decide +kernel
theorem dX6_spans_0 : decode cX6_spans 0 = .ok (.aload_n 0, 1) := by decide +kernel
theorem dX6_spans_1 : decode cX6_spans 1 = .ok (.getfield 30, 3) := by decide +kernel
theorem dX6_spans_4 : decode cX6_spans 4 = .ok (.iconst 0, 1) := by decide +kernel
theorem dX6_spans_5 : decode cX6_spans 5 = .ok (.iaload, 1) := by decide +kernel
theorem dX6_spans_6 : decode cX6_spans 6 = .ok (.ireturn, 1) := by decide +kernel
set_option maxRecDepth 20000 in
theorem ggX6_find_X5_length : GoodIn wsX6_find wsX5_length := goodIn_r _ [13, 14, 203, 204] (by decide +kernel) (by decide +kernel)
set_option maxRecDepth 20000 in
theorem gX6_find_X5_length : GoodIn wsX6_find (wsV RX6 64 RX5 yX5_length wsX5_length) := goodIn_app (goodIn_of _ (by decide +kernel)) ggX6_find_X5_length
set_option maxRecDepth 20000 in
theorem ggX6_find_X6_tryAsItIs : GoodIn wsX6_find wsX6_tryAsItIs := goodIn_r _ [19, 20, 21, 22, 23, 12, 24, 14, 25, 26, 27, 28, 29, 30, 31, 32, 33, 34, 35, 36, 37, 38, 39, 40, 41, 42, 43, 44, 45, 46, 47, 48, 49, 50, 18, 51, 6, 7, 1, 52, 53, 54, 55, 56, 57, 191, 192, 193, 194, 195, 196, 197, 198, 199, 200, 201, 202, 203, 204, 205, 206, 207] (by decide +kernel) (by decide +kernel)
set_option maxRecDepth 20000 in
theorem gX6_find_X6_tryAsItIs : GoodIn wsX6_find (wsV RX6 74 RX6 yX6_tryAsItIs wsX6_tryAsItIs) := goodIn_app (goodIn_of _ (by decide +kernel)) ggX6_find_X6_tryAsItIs
set_option maxRecDepth 20000 in
theorem ggX6_find_X4_length : GoodIn wsX6_find wsX4_length := goodIn_r _ [62, 63, 208, 209, 210, 211] (by decide +kernel) (by decide +kernel)
set_option maxRecDepth 20000 in
theorem gX6_find_X4_length : GoodIn wsX6_find (wsV RX6 78 RX4 yX4_length wsX4_length) := goodIn_app (goodIn_of _ (by decide +kernel)) ggX6_find_X4_length
set_option maxRecDepth 20000 in
theorem ggX6_find_X6_tryUndone : GoodIn wsX6_find wsX6_tryUndone := goodIn_r _ [67, 68, 69, 70, 8, 71, 72, 73, 74, 75, 76, 77, 78, 79, 80, 81, 82, 12, 83, 14, 84, 85, 86, 61, 87, 63, 88, 21, 22, 23, 24, 25, 89, 90, 91, 92, 93, 94, 95, 96, 97, 98, 99, 100, 101, 102, 103, 104, 105, 106, 107, 108, 109, 110, 111, 112, 113, 114, 115, 116, 117, 118, 119, 120, 121, 122, 123, 124, 125, 126, 127, 128, 129, 9, 10, 11, 13, 130, 131, 132, 133, 134, 135, 136, 137, 138, 139, 140, 141, 4, 142, 143, 144, 145, 146, 147, 148, 149, 150, 151, 152, 153, 154, 155, 156, 157, 158, 159, 160, 161, 162, 163, 164, 165, 166, 167, 168, 169, 170, 171, 172, 173, 174, 175, 27, 28, 29, 30, 31, 32, 33, 34, 35, 36, 37, 38, 39, 40, 41, 42, 43, 44, 45, 46, 47, 176, 177, 178, 179, 180, 181, 182, 183, 184, 185, 186, 187, 188, 189, 190, 48, 49, 50, 18, 51, 6, 7, 1, 52, 53, 54, 55, 56, 57, 191, 192, 193, 194, 195, 196, 197, 198, 199, 200, 201, 202, 212, 213, 214, 215, 216, 217, 203, 204, 208, 209, 210, 211, 218, 219, 220, 221, 222, 223, 205, 206, 207] (by decide +kernel) (by decide +kernel)
set_option maxRecDepth 20000 in
theorem gX6_find_X6_tryUndone : GoodIn wsX6_find (wsV RX6 81 RX6 yX6_tryUndone wsX6_tryUndone) := goodIn_app (goodIn_of _ (by decide +kernel)) ggX6_find_X6_tryUndone
theorem dX6_find_0 : decode cX6_find 0 = .ok (.aload_n 0, 1) := by decide +kernel
theorem dX6_find_1 : decode cX6_find 1 = .ok (.iload_n 2, 1) := by decide +kernel
theorem dX6_find_2 : decode cX6_find 2 = .ok (.putfield 60, 3) := by decide +kernel
theorem dX6_find_5 : decode cX6_find 5 = .ok (.aload_n 1, 1) := by decide +kernel
theorem dX6_find_6 : decode cX6_find 6 = .ok (.invokevirtual 64, 3) := by decide +kernel
theorem dX6_find_9 : decode cX6_find 9 = .ok (.bipush 60, 2) := by decide +kernel
theorem dX6_find_11 : decode cX6_find 11 = .ok (.invokestatic 68, 3) := by decide +kernel
theorem dX6_find_14 : decode cX6_find 14 = .ok (.istore_n 3, 1) := by decide +kernel
theorem dX6_find_15 : decode cX6_find 15 = .ok (.aload_n 0, 1) := by decide +kernel
theorem dX6_find_16 : decode cX6_find 16 = .ok (.getfield 26, 3) := by decide +kernel
theorem dX6_find_19 : decode cX6_find 19 = .ok (.iload_n 3, 1) := by decide +kernel
theorem dX6_find_20 : decode cX6_find 20 = .ok (.iconst 0, 1) := by decide +kernel
theorem dX6_find_21 : decode cX6_find 21 = .ok (.iastore, 1) := by decide +kernel
theorem dX6_find_22 : decode cX6_find 22 = .ok (.aload_n 0, 1) := by decide +kernel
theorem dX6_find_23 : decode cX6_find 23 = .ok (.getfield 30, 3) := by decide +kernel
theorem dX6_find_26 : decode cX6_find 26 = .ok (.iload_n 3, 1) := by decide +kernel
theorem dX6_find_27 : decode cX6_find 27 = .ok (.iconst 0, 1) := by decide +kernel
theorem dX6_find_28 : decode cX6_find 28 = .ok (.iastore, 1) := by decide +kernel
theorem dX6_find_29 : decode cX6_find 29 = .ok (.iload_n 3, 1) := by decide +kernel
theorem dX6_find_30 : decode cX6_find 30 = .ok (.iconst 1, 1) := by decide +kernel
theorem dX6_find_31 : decode cX6_find 31 = .ok (.isub, 1) := by decide +kernel
theorem dX6_find_32 : decode cX6_find 32 = .ok (.istore 4, 2) := by decide +kernel
theorem dX6_find_34 : decode cX6_find 34 = .ok (.iload 4, 2) := by decide +kernel
theorem dX6_find_36 : decode cX6_find 36 = .ok (.ifCond .lt 56, 3) := by decide +kernel
theorem dX6_find_39 : decode cX6_find 39 = .ok (.aload_n 0, 1) := by decide +kernel
theorem dX6_find_40 : decode cX6_find 40 = .ok (.getfield 26, 3) := by decide +kernel
theorem dX6_find_43 : decode cX6_find 43 = .ok (.iload 4, 2) := by decide +kernel
theorem dX6_find_45 : decode cX6_find 45 = .ok (.iconst (-1), 1) := by decide +kernel
theorem dX6_find_46 : decode cX6_find 46 = .ok (.iastore, 1) := by decide +kernel
theorem dX6_find_47 : decode cX6_find 47 = .ok (.aload_n 0, 1) := by decide +kernel
theorem dX6_find_48 : decode cX6_find 48 = .ok (.iload 4, 2) := by decide +kernel
theorem dX6_find_50 : decode cX6_find 50 = .ok (.aload_n 1, 1) := by decide +kernel
theorem dX6_find_51 : decode cX6_find 51 = .ok (.iload_n 3, 1) := by decide +kernel
theorem dX6_find_52 : decode cX6_find 52 = .ok (.invokevirtual 74, 3) := by decide +kernel
theorem dX6_find_55 : decode cX6_find 55 = .ok (.iconst 0, 1) := by decide +kernel
theorem dX6_find_56 : decode cX6_find 56 = .ok (.istore 5, 2) := by decide +kernel
theorem dX6_find_58 : decode cX6_find 58 = .ok (.iload 5, 2) := by decide +kernel
theorem dX6_find_60 : decode cX6_find 60 = .ok (.aload_n 0, 1) := by decide +kernel
theorem dX6_find_61 : decode cX6_find 61 = .ok (.getfield 43, 3) := by decide +kernel
theorem dX6_find_64 : decode cX6_find 64 = .ok (.invokevirtual 78, 3) := by decide +kernel
theorem dX6_find_67 : decode cX6_find 67 = .ok (.if_icmp .ge 19, 3) := by decide +kernel
theorem dX6_find_70 : decode cX6_find 70 = .ok (.aload_n 0, 1) := by decide +kernel
theorem dX6_find_71 : decode cX6_find 71 = .ok (.iload 5, 2) := by decide +kernel
theorem dX6_find_73 : decode cX6_find 73 = .ok (.iload 4, 2) := by decide +kernel
theorem dX6_find_75 : decode cX6_find 75 = .ok (.aload_n 1, 1) := by decide +kernel
theorem dX6_find_76 : decode cX6_find 76 = .ok (.iload_n 3, 1) := by decide +kernel
theorem dX6_find_77 : decode cX6_find 77 = .ok (.invokevirtual 81, 3) := by decide +kernel
theorem dX6_find_80 : decode cX6_find 80 = .ok (.iinc 5 1, 3) := by decide +kernel
theorem dX6_find_83 : decode cX6_find 83 = .ok (.goto (-25), 3) := by decide +kernel
theorem dX6_find_86 : decode cX6_find 86 = .ok (.iinc 4 (-1), 3) := by decide +kernel
theorem dX6_find_89 : decode cX6_find 89 = .ok (.goto (-55), 3) := by decide +kernel
theorem dX6_find_92 : decode cX6_find 92 = .ok (.return_, 1) := by decide +kernel
set_option maxRecDepth 20000 in
theorem ggX6_tryAsItIs_X5_get : GoodIn wsX6_tryAsItIs wsX5_get := goodIn_r _ [6, 7, 8, 57, 58] (by decide +kernel) (by decide +kernel)
set_option maxRecDepth 20000 in
theorem gX6_tryAsItIs_X5_get : GoodIn wsX6_tryAsItIs (wsV RX6 85 RX5 yX5_get wsX5_get) := goodIn_app (goodIn_of _ (by decide +kernel)) ggX6_tryAsItIs_X5_get
set_option maxRecDepth 20000 in
theorem ggX6_tryAsItIs_X3_of : GoodIn wsX6_tryAsItIs wsX3_of := goodIn_r _ [13, 14, 15, 16, 17, 18, 12, 19, 20, 21, 22, 23, 24, 25, 26, 27, 28, 29, 30, 59, 60, 61] (by decide +kernel) (by decide +kernel)
set_option maxRecDepth 20000 in
theorem gX6_tryAsItIs_X3_of : GoodIn wsX6_tryAsItIs (wsV RX6 89 RX3 yX3_of wsX3_of) := goodIn_app (goodIn_of _ (by decide +kernel)) ggX6_tryAsItIs_X3_of
set_option maxRecDepth 20000 in
theorem ggX6_tryAsItIs_X6_offer : GoodIn wsX6_tryAsItIs wsX6_offer := goodIn_r _ [35, 36, 37, 38, 39, 40, 41, 42, 43, 34, 44, 45, 46, 47, 48, 49, 50, 51, 52, 53, 54, 55, 56] (by decide +kernel) (by decide +kernel)
set_option maxRecDepth 20000 in
theorem gX6_tryAsItIs_X6_offer : GoodIn wsX6_tryAsItIs (wsV RX6 94 RX6 yX6_offer wsX6_offer) := goodIn_app (goodIn_of _ (by decide +kernel)) ggX6_tryAsItIs_X6_offer
theorem dX6_tryAsItIs_0 : decode cX6_tryAsItIs 0 = .ok (.iconst 0, 1) := by decide +kernel
theorem dX6_tryAsItIs_1 : decode cX6_tryAsItIs 1 = .ok (.istore 4, 2) := by decide +kernel
theorem dX6_tryAsItIs_3 : decode cX6_tryAsItIs 3 = .ok (.bipush 32, 2) := by decide +kernel
theorem dX6_tryAsItIs_5 : decode cX6_tryAsItIs 5 = .ok (.istore 5, 2) := by decide +kernel
theorem dX6_tryAsItIs_7 : decode cX6_tryAsItIs 7 = .ok (.iload_n 1, 1) := by decide +kernel
theorem dX6_tryAsItIs_8 : decode cX6_tryAsItIs 8 = .ok (.istore 6, 2) := by decide +kernel
theorem dX6_tryAsItIs_10 : decode cX6_tryAsItIs 10 = .ok (.iload 6, 2) := by decide +kernel
theorem dX6_tryAsItIs_12 : decode cX6_tryAsItIs 12 = .ok (.iload_n 3, 1) := by decide +kernel
theorem dX6_tryAsItIs_13 : decode cX6_tryAsItIs 13 = .ok (.if_icmp .ge 61, 3) := by decide +kernel
theorem dX6_tryAsItIs_16 : decode cX6_tryAsItIs 16 = .ok (.aload_n 2, 1) := by decide +kernel
theorem dX6_tryAsItIs_17 : decode cX6_tryAsItIs 17 = .ok (.iload 6, 2) := by decide +kernel
theorem dX6_tryAsItIs_19 : decode cX6_tryAsItIs 19 = .ok (.invokevirtual 85, 3) := by decide +kernel
theorem dX6_tryAsItIs_22 : decode cX6_tryAsItIs 22 = .ok (.istore 7, 2) := by decide +kernel
theorem dX6_tryAsItIs_24 : decode cX6_tryAsItIs 24 = .ok (.iload 4, 2) := by decide +kernel
theorem dX6_tryAsItIs_26 : decode cX6_tryAsItIs 26 = .ok (.aload_n 0, 1) := by decide +kernel
theorem dX6_tryAsItIs_27 : decode cX6_tryAsItIs 27 = .ok (.getfield 47, 3) := by decide +kernel
theorem dX6_tryAsItIs_30 : decode cX6_tryAsItIs 30 = .ok (.iload 5, 2) := by decide +kernel
theorem dX6_tryAsItIs_32 : decode cX6_tryAsItIs 32 = .ok (.iload 7, 2) := by decide +kernel
theorem dX6_tryAsItIs_34 : decode cX6_tryAsItIs 34 = .ok (.invokevirtual 89, 3) := by decide +kernel
theorem dX6_tryAsItIs_37 : decode cX6_tryAsItIs 37 = .ok (.iadd, 1) := by decide +kernel
theorem dX6_tryAsItIs_38 : decode cX6_tryAsItIs 38 = .ok (.istore 4, 2) := by decide +kernel
theorem dX6_tryAsItIs_40 : decode cX6_tryAsItIs 40 = .ok (.iload 7, 2) := by decide +kernel
theorem dX6_tryAsItIs_42 : decode cX6_tryAsItIs 42 = .ok (.istore 5, 2) := by decide +kernel
theorem dX6_tryAsItIs_44 : decode cX6_tryAsItIs 44 = .ok (.aload_n 0, 1) := by decide +kernel
theorem dX6_tryAsItIs_45 : decode cX6_tryAsItIs 45 = .ok (.iload_n 1, 1) := by decide +kernel
theorem dX6_tryAsItIs_46 : decode cX6_tryAsItIs 46 = .ok (.iload 6, 2) := by decide +kernel
theorem dX6_tryAsItIs_48 : decode cX6_tryAsItIs 48 = .ok (.iconst 1, 1) := by decide +kernel
theorem dX6_tryAsItIs_49 : decode cX6_tryAsItIs 49 = .ok (.iadd, 1) := by decide +kernel
theorem dX6_tryAsItIs_50 : decode cX6_tryAsItIs 50 = .ok (.iconst (-1), 1) := by decide +kernel
theorem dX6_tryAsItIs_51 : decode cX6_tryAsItIs 51 = .ok (.iload 4, 2) := by decide +kernel
theorem dX6_tryAsItIs_53 : decode cX6_tryAsItIs 53 = .ok (.aload_n 0, 1) := by decide +kernel
theorem dX6_tryAsItIs_54 : decode cX6_tryAsItIs 54 = .ok (.getfield 47, 3) := by decide +kernel
theorem dX6_tryAsItIs_57 : decode cX6_tryAsItIs 57 = .ok (.iload 7, 2) := by decide +kernel
theorem dX6_tryAsItIs_59 : decode cX6_tryAsItIs 59 = .ok (.bipush 32, 2) := by decide +kernel
theorem dX6_tryAsItIs_61 : decode cX6_tryAsItIs 61 = .ok (.invokevirtual 89, 3) := by decide +kernel
theorem dX6_tryAsItIs_64 : decode cX6_tryAsItIs 64 = .ok (.iadd, 1) := by decide +kernel
theorem dX6_tryAsItIs_65 : decode cX6_tryAsItIs 65 = .ok (.invokevirtual 94, 3) := by decide +kernel
theorem dX6_tryAsItIs_68 : decode cX6_tryAsItIs 68 = .ok (.iinc 6 1, 3) := by decide +kernel
theorem dX6_tryAsItIs_71 : decode cX6_tryAsItIs 71 = .ok (.goto (-61), 3) := by decide +kernel
theorem dX6_tryAsItIs_74 : decode cX6_tryAsItIs 74 = .ok (.return_, 1) := by decide +kernel
set_option maxRecDepth 20000 in
theorem ggX6_tryUndone_X8_begin : GoodIn wsX6_tryUndone wsX8_begin := goodIn_r _ [9, 10, 11, 12, 13, 186, 187, 188, 189, 190, 191] (by decide +kernel) (by decide +kernel)
set_option maxRecDepth 20000 in
theorem gX6_tryUndone_X8_begin : GoodIn wsX6_tryUndone (wsV RX6 98 RX8 yX8_begin wsX8_begin) := goodIn_app (goodIn_of _ (by decide +kernel)) ggX6_tryUndone_X8_begin
set_option maxRecDepth 20000 in
theorem ggX6_tryUndone_X5_cut : GoodIn wsX6_tryUndone wsX5_cut := goodIn_r _ [18, 19, 192, 193] (by decide +kernel) (by decide +kernel)
set_option maxRecDepth 20000 in
theorem gX6_tryUndone_X5_cut : GoodIn wsX6_tryUndone (wsV RX6 101 RX5 yX5_cut wsX5_cut) := goodIn_app (goodIn_of _ (by decide +kernel)) ggX6_tryUndone_X5_cut
set_option maxRecDepth 20000 in
theorem ggX6_tryUndone_X4_readIn : GoodIn wsX6_tryUndone wsX4_readIn := goodIn_r _ [24, 25, 26, 194, 195, 196, 197] (by decide +kernel) (by decide +kernel)
set_option maxRecDepth 20000 in
theorem gX6_tryUndone_X4_readIn : GoodIn wsX6_tryUndone (wsV RX6 104 RX4 yX4_readIn wsX4_readIn) := goodIn_app (goodIn_of _ (by decide +kernel)) ggX6_tryUndone_X4_readIn
set_option maxRecDepth 20000 in
theorem ggX6_tryUndone_X5_get : GoodIn wsX6_tryUndone wsX5_get := goodIn_r _ [30, 19, 31, 192, 193] (by decide +kernel) (by decide +kernel)
set_option maxRecDepth 20000 in
theorem gX6_tryUndone_X5_get : GoodIn wsX6_tryUndone (wsV RX6 85 RX5 yX5_get wsX5_get) := goodIn_app (goodIn_of _ (by decide +kernel)) ggX6_tryUndone_X5_get
set_option maxRecDepth 20000 in
theorem ggX6_tryUndone_X2_encode : GoodIn wsX6_tryUndone wsX2_encode := goodIn_r _ [36, 37, 38, 39, 17, 40, 19, 31, 41, 42, 35, 43, 44, 45, 46, 47, 48, 49, 50, 51, 52, 53, 54, 55, 56, 57, 58, 59, 60, 61, 62, 63, 64, 65, 66, 67, 192, 193, 198, 199, 200, 201, 202, 203] (by decide +kernel) (by decide +kernel)
set_option maxRecDepth 20000 in
theorem gX6_tryUndone_X2_encode : GoodIn wsX6_tryUndone (wsV RX6 107 RX2 yX2_encode wsX2_encode) := goodIn_app (goodIn_of _ (by decide +kernel)) ggX6_tryUndone_X2_encode
set_option maxRecDepth 20000 in
theorem ggX6_tryUndone_X4_writtenIn : GoodIn wsX6_tryUndone wsX4_writtenIn := goodIn_r _ [71, 25, 72, 194, 195, 196, 197] (by decide +kernel) (by decide +kernel)
set_option maxRecDepth 20000 in
theorem gX6_tryUndone_X4_writtenIn : GoodIn wsX6_tryUndone (wsV RX6 113 RX4 yX4_writtenIn wsX4_writtenIn) := goodIn_app (goodIn_of _ (by decide +kernel)) ggX6_tryUndone_X4_writtenIn
set_option maxRecDepth 20000 in
theorem ggX6_tryUndone_X5_length : GoodIn wsX6_tryUndone wsX5_length := goodIn_r _ [76, 19, 192, 193] (by decide +kernel) (by decide +kernel)
set_option maxRecDepth 20000 in
theorem gX6_tryUndone_X5_length : GoodIn wsX6_tryUndone (wsV RX6 64 RX5 yX5_length wsX5_length) := goodIn_app (goodIn_of _ (by decide +kernel)) ggX6_tryUndone_X5_length
set_option maxRecDepth 20000 in
theorem ggX6_tryUndone_X8_goOn : GoodIn wsX6_tryUndone wsX8_goOn := goodIn_r _ [80, 10, 81, 82, 83, 8, 84, 85, 12, 86, 11, 13, 87, 88, 89, 90, 91, 92, 93, 35, 94, 95, 28, 29, 17, 30, 19, 31, 96, 97, 98, 99, 50, 51, 52, 53, 54, 55, 100, 101, 102, 59, 103, 104, 105, 106, 107, 108, 109, 110, 111, 112, 113, 114, 115, 116, 117, 118, 119, 44, 45, 46, 120, 121, 122, 123, 124, 125, 126, 127, 128, 129, 130, 131, 132, 133, 134, 135, 136, 137, 138, 139, 140, 141, 142, 143, 144, 145, 146, 147, 186, 187, 188, 189, 190, 191, 192, 193, 198, 199, 200, 201, 202, 203, 204, 205, 206] (by decide +kernel) (by decide +kernel)
set_option maxRecDepth 20000 in
theorem gX6_tryUndone_X8_goOn : GoodIn wsX6_tryUndone (wsV RX6 116 RX8 yX8_goOn wsX8_goOn) := goodIn_app (goodIn_of _ (by decide +kernel)) ggX6_tryUndone_X8_goOn
set_option maxRecDepth 20000 in
theorem ggX6_tryUndone_X8_letters : GoodIn wsX6_tryUndone wsX8_letters := goodIn_r _ [151, 13, 186, 187, 188, 189, 190, 191] (by decide +kernel) (by decide +kernel)
set_option maxRecDepth 20000 in
theorem gX6_tryUndone_X8_letters : GoodIn wsX6_tryUndone (wsV RX6 119 RX8 yX8_letters wsX8_letters) := goodIn_app (goodIn_of _ (by decide +kernel)) ggX6_tryUndone_X8_letters
set_option maxRecDepth 20000 in
theorem ggX6_tryUndone_X8_reached : GoodIn wsX6_tryUndone wsX8_reached := goodIn_r _ [155, 10, 186, 187, 188, 189, 190, 191] (by decide +kernel) (by decide +kernel)
set_option maxRecDepth 20000 in
theorem gX6_tryUndone_X8_reached : GoodIn wsX6_tryUndone (wsV RX6 122 RX8 yX8_reached wsX8_reached) := goodIn_app (goodIn_of _ (by decide +kernel)) ggX6_tryUndone_X8_reached
set_option maxRecDepth 20000 in
theorem ggX6_tryUndone_X8_sumWith : GoodIn wsX6_tryUndone wsX8_sumWith := goodIn_r _ [159, 12, 86, 11, 123, 124, 125, 126, 127, 128, 129, 130, 131, 132, 133, 134, 135, 136, 137, 138, 139, 140, 141, 142, 143, 144, 186, 187, 188, 189, 190, 191, 204, 205, 206] (by decide +kernel) (by decide +kernel)
set_option maxRecDepth 20000 in
theorem gX6_tryUndone_X8_sumWith : GoodIn wsX6_tryUndone (wsV RX6 125 RX8 yX8_sumWith wsX8_sumWith) := goodIn_app (goodIn_of _ (by decide +kernel)) ggX6_tryUndone_X8_sumWith
set_option maxRecDepth 20000 in
theorem ggX6_tryUndone_X6_offer : GoodIn wsX6_tryUndone wsX6_offer := goodIn_r _ [164, 165, 166, 167, 168, 169, 170, 171, 172, 163, 173, 174, 175, 176, 177, 178, 179, 180, 181, 182, 183, 184, 185] (by decide +kernel) (by decide +kernel)
set_option maxRecDepth 20000 in
theorem gX6_tryUndone_X6_offer : GoodIn wsX6_tryUndone (wsV RX6 94 RX6 yX6_offer wsX6_offer) := goodIn_app (goodIn_of _ (by decide +kernel)) ggX6_tryUndone_X6_offer
theorem dX6_tryUndone_0 : decode cX6_tryUndone 0 = .ok (.aload_n 0, 1) := by decide +kernel
theorem dX6_tryUndone_1 : decode cX6_tryUndone 1 = .ok (.getfield 56, 3) := by decide +kernel
theorem dX6_tryUndone_4 : decode cX6_tryUndone 4 = .ok (.invokevirtual 98, 3) := by decide +kernel
theorem dX6_tryUndone_7 : decode cX6_tryUndone 7 = .ok (.aload_n 0, 1) := by decide +kernel
theorem dX6_tryUndone_8 : decode cX6_tryUndone 8 = .ok (.getfield 14, 3) := by decide +kernel
theorem dX6_tryUndone_11 : decode cX6_tryUndone 11 = .ok (.iconst 0, 1) := by decide +kernel
theorem dX6_tryUndone_12 : decode cX6_tryUndone 12 = .ok (.invokevirtual 101, 3) := by decide +kernel
theorem dX6_tryUndone_15 : decode cX6_tryUndone 15 = .ok (.iload_n 2, 1) := by decide +kernel
theorem dX6_tryUndone_16 : decode cX6_tryUndone 16 = .ok (.istore 5, 2) := by decide +kernel
theorem dX6_tryUndone_18 : decode cX6_tryUndone 18 = .ok (.iload 5, 2) := by decide +kernel
theorem dX6_tryUndone_20 : decode cX6_tryUndone 20 = .ok (.iload 4, 2) := by decide +kernel
theorem dX6_tryUndone_22 : decode cX6_tryUndone 22 = .ok (.if_icmp .ge 114, 3) := by decide +kernel
theorem dX6_tryUndone_25 : decode cX6_tryUndone 25 = .ok (.aload_n 0, 1) := by decide +kernel
theorem dX6_tryUndone_26 : decode cX6_tryUndone 26 = .ok (.getfield 39, 3) := by decide +kernel
theorem dX6_tryUndone_29 : decode cX6_tryUndone 29 = .ok (.aload_n 0, 1) := by decide +kernel
theorem dX6_tryUndone_30 : decode cX6_tryUndone 30 = .ok (.getfield 43, 3) := by decide +kernel
theorem dX6_tryUndone_33 : decode cX6_tryUndone 33 = .ok (.iload_n 1, 1) := by decide +kernel
theorem dX6_tryUndone_34 : decode cX6_tryUndone 34 = .ok (.invokevirtual 104, 3) := by decide +kernel
theorem dX6_tryUndone_37 : decode cX6_tryUndone 37 = .ok (.aload_n 3, 1) := by decide +kernel
theorem dX6_tryUndone_38 : decode cX6_tryUndone 38 = .ok (.iload 5, 2) := by decide +kernel
theorem dX6_tryUndone_40 : decode cX6_tryUndone 40 = .ok (.invokevirtual 85, 3) := by decide +kernel
theorem dX6_tryUndone_43 : decode cX6_tryUndone 43 = .ok (.aload_n 0, 1) := by decide +kernel
theorem dX6_tryUndone_44 : decode cX6_tryUndone 44 = .ok (.getfield 14, 3) := by decide +kernel
theorem dX6_tryUndone_47 : decode cX6_tryUndone 47 = .ok (.invokevirtual 107, 3) := by decide +kernel
theorem dX6_tryUndone_50 : decode cX6_tryUndone 50 = .ok (.ifCond .ne 4, 3) := by decide +kernel
theorem dX6_tryUndone_53 : decode cX6_tryUndone 53 = .ok (.return_, 1) := by decide +kernel
theorem dX6_tryUndone_54 : decode cX6_tryUndone 54 = .ok (.aload_n 0, 1) := by decide +kernel
theorem dX6_tryUndone_55 : decode cX6_tryUndone 55 = .ok (.getfield 56, 3) := by decide +kernel
theorem dX6_tryUndone_58 : decode cX6_tryUndone 58 = .ok (.aload_n 0, 1) := by decide +kernel
theorem dX6_tryUndone_59 : decode cX6_tryUndone 59 = .ok (.getfield 43, 3) := by decide +kernel
theorem dX6_tryUndone_62 : decode cX6_tryUndone 62 = .ok (.iload_n 1, 1) := by decide +kernel
theorem dX6_tryUndone_63 : decode cX6_tryUndone 63 = .ok (.invokevirtual 113, 3) := by decide +kernel
theorem dX6_tryUndone_66 : decode cX6_tryUndone 66 = .ok (.aload_n 0, 1) := by decide +kernel
theorem dX6_tryUndone_67 : decode cX6_tryUndone 67 = .ok (.getfield 14, 3) := by decide +kernel
theorem dX6_tryUndone_70 : decode cX6_tryUndone 70 = .ok (.aload_n 0, 1) := by decide +kernel
theorem dX6_tryUndone_71 : decode cX6_tryUndone 71 = .ok (.getfield 14, 3) := by decide +kernel
theorem dX6_tryUndone_74 : decode cX6_tryUndone 74 = .ok (.invokevirtual 64, 3) := by decide +kernel
theorem dX6_tryUndone_77 : decode cX6_tryUndone 77 = .ok (.invokevirtual 116, 3) := by decide +kernel
theorem dX6_tryUndone_80 : decode cX6_tryUndone 80 = .ok (.aload_n 0, 1) := by decide +kernel
theorem dX6_tryUndone_81 : decode cX6_tryUndone 81 = .ok (.getfield 56, 3) := by decide +kernel
theorem dX6_tryUndone_84 : decode cX6_tryUndone 84 = .ok (.invokevirtual 119, 3) := by decide +kernel
theorem dX6_tryUndone_87 : decode cX6_tryUndone 87 = .ok (.sipush 300, 3) := by decide +kernel
theorem dX6_tryUndone_90 : decode cX6_tryUndone 90 = .ok (.if_icmp .le 4, 3) := by decide +kernel
theorem dX6_tryUndone_93 : decode cX6_tryUndone 93 = .ok (.return_, 1) := by decide +kernel
theorem dX6_tryUndone_94 : decode cX6_tryUndone 94 = .ok (.aload_n 0, 1) := by decide +kernel
theorem dX6_tryUndone_95 : decode cX6_tryUndone 95 = .ok (.getfield 56, 3) := by decide +kernel
theorem dX6_tryUndone_98 : decode cX6_tryUndone 98 = .ok (.invokevirtual 122, 3) := by decide +kernel
theorem dX6_tryUndone_101 : decode cX6_tryUndone 101 = .ok (.aload_n 0, 1) := by decide +kernel
theorem dX6_tryUndone_102 : decode cX6_tryUndone 102 = .ok (.getfield 14, 3) := by decide +kernel
theorem dX6_tryUndone_105 : decode cX6_tryUndone 105 = .ok (.invokevirtual 64, 3) := by decide +kernel
theorem dX6_tryUndone_108 : decode cX6_tryUndone 108 = .ok (.if_icmp .ne 22, 3) := by decide +kernel
theorem dX6_tryUndone_111 : decode cX6_tryUndone 111 = .ok (.aload_n 0, 1) := by decide +kernel
theorem dX6_tryUndone_112 : decode cX6_tryUndone 112 = .ok (.iload_n 2, 1) := by decide +kernel
theorem dX6_tryUndone_113 : decode cX6_tryUndone 113 = .ok (.iload 5, 2) := by decide +kernel
theorem dX6_tryUndone_115 : decode cX6_tryUndone 115 = .ok (.iconst 1, 1) := by decide +kernel
theorem dX6_tryUndone_116 : decode cX6_tryUndone 116 = .ok (.iadd, 1) := by decide +kernel
theorem dX6_tryUndone_117 : decode cX6_tryUndone 117 = .ok (.iload_n 1, 1) := by decide +kernel
theorem dX6_tryUndone_118 : decode cX6_tryUndone 118 = .ok (.aload_n 0, 1) := by decide +kernel
theorem dX6_tryUndone_119 : decode cX6_tryUndone 119 = .ok (.getfield 56, 3) := by decide +kernel
theorem dX6_tryUndone_122 : decode cX6_tryUndone 122 = .ok (.bipush 32, 2) := by decide +kernel
theorem dX6_tryUndone_124 : decode cX6_tryUndone 124 = .ok (.invokevirtual 125, 3) := by decide +kernel
theorem dX6_tryUndone_127 : decode cX6_tryUndone 127 = .ok (.invokevirtual 94, 3) := by decide +kernel
theorem dX6_tryUndone_130 : decode cX6_tryUndone 130 = .ok (.iinc 5 1, 3) := by decide +kernel
theorem dX6_tryUndone_133 : decode cX6_tryUndone 133 = .ok (.goto (-115), 3) := by decide +kernel
theorem dX6_tryUndone_136 : decode cX6_tryUndone 136 = .ok (.return_, 1) := by decide +kernel
set_option maxRecDepth 20000 in
theorem ggX6_offer_X6_isBetter : GoodIn wsX6_offer wsX6_isBetter := goodIn_r _ [10, 1, 2, 4, 11, 12, 13, 14, 15, 16, 17, 18, 19, 20, 21, 22] (by decide +kernel) (by decide +kernel)
set_option maxRecDepth 20000 in
theorem gX6_offer_X6_isBetter : GoodIn wsX6_offer (wsV RX6 128 RX6 yX6_isBetter wsX6_isBetter) := goodIn_app (goodIn_of _ (by decide +kernel)) ggX6_offer_X6_isBetter
theorem dX6_offer_0 : decode cX6_offer 0 = .ok (.iload_n 1, 1) := by decide +kernel
theorem dX6_offer_1 : decode cX6_offer 1 = .ok (.ifCond .lt 14, 3) := by decide +kernel
theorem dX6_offer_4 : decode cX6_offer 4 = .ok (.iload_n 2, 1) := by decide +kernel
theorem dX6_offer_5 : decode cX6_offer 5 = .ok (.iload_n 1, 1) := by decide +kernel
theorem dX6_offer_6 : decode cX6_offer 6 = .ok (.if_icmp .le 9, 3) := by decide +kernel
theorem dX6_offer_9 : decode cX6_offer 9 = .ok (.iload_n 2, 1) := by decide +kernel
theorem dX6_offer_10 : decode cX6_offer 10 = .ok (.bipush 60, 2) := by decide +kernel
theorem dX6_offer_12 : decode cX6_offer 12 = .ok (.if_icmp .le 4, 3) := by decide +kernel
theorem dX6_offer_15 : decode cX6_offer 15 = .ok (.return_, 1) := by decide +kernel
theorem dX6_offer_16 : decode cX6_offer 16 = .ok (.iload 4, 2) := by decide +kernel
theorem dX6_offer_18 : decode cX6_offer 18 = .ok (.aload_n 0, 1) := by decide +kernel
theorem dX6_offer_19 : decode cX6_offer 19 = .ok (.getfield 26, 3) := by decide +kernel
theorem dX6_offer_22 : decode cX6_offer 22 = .ok (.iload_n 2, 1) := by decide +kernel
theorem dX6_offer_23 : decode cX6_offer 23 = .ok (.iaload, 1) := by decide +kernel
theorem dX6_offer_24 : decode cX6_offer 24 = .ok (.iadd, 1) := by decide +kernel
theorem dX6_offer_25 : decode cX6_offer 25 = .ok (.aload_n 0, 1) := by decide +kernel
theorem dX6_offer_26 : decode cX6_offer 26 = .ok (.getfield 30, 3) := by decide +kernel
theorem dX6_offer_29 : decode cX6_offer 29 = .ok (.iload_n 2, 1) := by decide +kernel
theorem dX6_offer_30 : decode cX6_offer 30 = .ok (.iaload, 1) := by decide +kernel
theorem dX6_offer_31 : decode cX6_offer 31 = .ok (.ifCond .le 10, 3) := by decide +kernel
theorem dX6_offer_34 : decode cX6_offer 34 = .ok (.aload_n 0, 1) := by decide +kernel
theorem dX6_offer_35 : decode cX6_offer 35 = .ok (.getfield 60, 3) := by decide +kernel
theorem dX6_offer_38 : decode cX6_offer 38 = .ok (.goto 4, 3) := by decide +kernel
theorem dX6_offer_41 : decode cX6_offer 41 = .ok (.iconst 0, 1) := by decide +kernel
theorem dX6_offer_42 : decode cX6_offer 42 = .ok (.iadd, 1) := by decide +kernel
theorem dX6_offer_43 : decode cX6_offer 43 = .ok (.istore 5, 2) := by decide +kernel
theorem dX6_offer_45 : decode cX6_offer 45 = .ok (.iconst 1, 1) := by decide +kernel
theorem dX6_offer_46 : decode cX6_offer 46 = .ok (.aload_n 0, 1) := by decide +kernel
theorem dX6_offer_47 : decode cX6_offer 47 = .ok (.getfield 30, 3) := by decide +kernel
theorem dX6_offer_50 : decode cX6_offer 50 = .ok (.iload_n 2, 1) := by decide +kernel
theorem dX6_offer_51 : decode cX6_offer 51 = .ok (.iaload, 1) := by decide +kernel
theorem dX6_offer_52 : decode cX6_offer 52 = .ok (.iadd, 1) := by decide +kernel
theorem dX6_offer_53 : decode cX6_offer 53 = .ok (.istore 6, 2) := by decide +kernel
theorem dX6_offer_55 : decode cX6_offer 55 = .ok (.aload_n 0, 1) := by decide +kernel
theorem dX6_offer_56 : decode cX6_offer 56 = .ok (.getfield 26, 3) := by decide +kernel
theorem dX6_offer_59 : decode cX6_offer 59 = .ok (.iload_n 1, 1) := by decide +kernel
theorem dX6_offer_60 : decode cX6_offer 60 = .ok (.iaload, 1) := by decide +kernel
theorem dX6_offer_61 : decode cX6_offer 61 = .ok (.iconst (-1), 1) := by decide +kernel
theorem dX6_offer_62 : decode cX6_offer 62 = .ok (.if_icmp .eq 16, 3) := by decide +kernel
theorem dX6_offer_65 : decode cX6_offer 65 = .ok (.aload_n 0, 1) := by decide +kernel
theorem dX6_offer_66 : decode cX6_offer 66 = .ok (.iload_n 1, 1) := by decide +kernel
theorem dX6_offer_67 : decode cX6_offer 67 = .ok (.iload 5, 2) := by decide +kernel
theorem dX6_offer_69 : decode cX6_offer 69 = .ok (.iload 6, 2) := by decide +kernel
theorem dX6_offer_71 : decode cX6_offer 71 = .ok (.iload_n 2, 1) := by decide +kernel
theorem dX6_offer_72 : decode cX6_offer 72 = .ok (.invokevirtual 128, 3) := by decide +kernel
theorem dX6_offer_75 : decode cX6_offer 75 = .ok (.ifCond .eq 33, 3) := by decide +kernel
theorem dX6_offer_78 : decode cX6_offer 78 = .ok (.aload_n 0, 1) := by decide +kernel
theorem dX6_offer_79 : decode cX6_offer 79 = .ok (.getfield 26, 3) := by decide +kernel
theorem dX6_offer_82 : decode cX6_offer 82 = .ok (.iload_n 1, 1) := by decide +kernel
theorem dX6_offer_83 : decode cX6_offer 83 = .ok (.iload 5, 2) := by decide +kernel
theorem dX6_offer_85 : decode cX6_offer 85 = .ok (.iastore, 1) := by decide +kernel
theorem dX6_offer_86 : decode cX6_offer 86 = .ok (.aload_n 0, 1) := by decide +kernel
theorem dX6_offer_87 : decode cX6_offer 87 = .ok (.getfield 30, 3) := by decide +kernel
theorem dX6_offer_90 : decode cX6_offer 90 = .ok (.iload_n 1, 1) := by decide +kernel
theorem dX6_offer_91 : decode cX6_offer 91 = .ok (.iload 6, 2) := by decide +kernel
theorem dX6_offer_93 : decode cX6_offer 93 = .ok (.iastore, 1) := by decide +kernel
theorem dX6_offer_94 : decode cX6_offer 94 = .ok (.aload_n 0, 1) := by decide +kernel
theorem dX6_offer_95 : decode cX6_offer 95 = .ok (.getfield 33, 3) := by decide +kernel
theorem dX6_offer_98 : decode cX6_offer 98 = .ok (.iload_n 1, 1) := by decide +kernel
theorem dX6_offer_99 : decode cX6_offer 99 = .ok (.iload_n 2, 1) := by decide +kernel
theorem dX6_offer_100 : decode cX6_offer 100 = .ok (.iastore, 1) := by decide +kernel
theorem dX6_offer_101 : decode cX6_offer 101 = .ok (.aload_n 0, 1) := by decide +kernel
theorem dX6_offer_102 : decode cX6_offer 102 = .ok (.getfield 36, 3) := by decide +kernel
theorem dX6_offer_105 : decode cX6_offer 105 = .ok (.iload_n 1, 1) := by decide +kernel
theorem dX6_offer_106 : decode cX6_offer 106 = .ok (.iload_n 3, 1) := by decide +kernel
theorem dX6_offer_107 : decode cX6_offer 107 = .ok (.iastore, 1) := by decide +kernel
theorem dX6_offer_108 : decode cX6_offer 108 = .ok (.return_, 1) := by decide +kernel
theorem dX6_isBetter_0 : decode cX6_isBetter 0 = .ok (.iload_n 2, 1) := by decide +kernel
theorem dX6_isBetter_1 : decode cX6_isBetter 1 = .ok (.aload_n 0, 1) := by decide +kernel
theorem dX6_isBetter_2 : decode cX6_isBetter 2 = .ok (.getfield 26, 3) := by decide +kernel
theorem dX6_isBetter_5 : decode cX6_isBetter 5 = .ok (.iload_n 1, 1) := by decide +kernel
theorem dX6_isBetter_6 : decode cX6_isBetter 6 = .ok (.iaload, 1) := by decide +kernel
theorem dX6_isBetter_7 : decode cX6_isBetter 7 = .ok (.if_icmp .eq 19, 3) := by decide +kernel
theorem dX6_isBetter_10 : decode cX6_isBetter 10 = .ok (.iload_n 2, 1) := by decide +kernel
theorem dX6_isBetter_11 : decode cX6_isBetter 11 = .ok (.aload_n 0, 1) := by decide +kernel
theorem dX6_isBetter_12 : decode cX6_isBetter 12 = .ok (.getfield 26, 3) := by decide +kernel
theorem dX6_isBetter_15 : decode cX6_isBetter 15 = .ok (.iload_n 1, 1) := by decide +kernel
theorem dX6_isBetter_16 : decode cX6_isBetter 16 = .ok (.iaload, 1) := by decide +kernel
theorem dX6_isBetter_17 : decode cX6_isBetter 17 = .ok (.if_icmp .ge 7, 3) := by decide +kernel
theorem dX6_isBetter_20 : decode cX6_isBetter 20 = .ok (.iconst 1, 1) := by decide +kernel
theorem dX6_isBetter_21 : decode cX6_isBetter 21 = .ok (.goto 4, 3) := by decide +kernel
theorem dX6_isBetter_24 : decode cX6_isBetter 24 = .ok (.iconst 0, 1) := by decide +kernel
theorem dX6_isBetter_25 : decode cX6_isBetter 25 = .ok (.ireturn, 1) := by decide +kernel
theorem dX6_isBetter_26 : decode cX6_isBetter 26 = .ok (.iload_n 3, 1) := by decide +kernel
theorem dX6_isBetter_27 : decode cX6_isBetter 27 = .ok (.aload_n 0, 1) := by decide +kernel
theorem dX6_isBetter_28 : decode cX6_isBetter 28 = .ok (.getfield 30, 3) := by decide +kernel
theorem dX6_isBetter_31 : decode cX6_isBetter 31 = .ok (.iload_n 1, 1) := by decide +kernel
theorem dX6_isBetter_32 : decode cX6_isBetter 32 = .ok (.iaload, 1) := by decide +kernel
theorem dX6_isBetter_33 : decode cX6_isBetter 33 = .ok (.if_icmp .eq 19, 3) := by decide +kernel
theorem dX6_isBetter_36 : decode cX6_isBetter 36 = .ok (.iload_n 3, 1) := by decide +kernel
theorem dX6_isBetter_37 : decode cX6_isBetter 37 = .ok (.aload_n 0, 1) := by decide +kernel
theorem dX6_isBetter_38 : decode cX6_isBetter 38 = .ok (.getfield 30, 3) := by decide +kernel
theorem dX6_isBetter_41 : decode cX6_isBetter 41 = .ok (.iload_n 1, 1) := by decide +kernel
theorem dX6_isBetter_42 : decode cX6_isBetter 42 = .ok (.iaload, 1) := by decide +kernel
theorem dX6_isBetter_43 : decode cX6_isBetter 43 = .ok (.if_icmp .ge 7, 3) := by decide +kernel
theorem dX6_isBetter_46 : decode cX6_isBetter 46 = .ok (.iconst 1, 1) := by decide +kernel
theorem dX6_isBetter_47 : decode cX6_isBetter 47 = .ok (.goto 4, 3) := by decide +kernel
theorem dX6_isBetter_50 : decode cX6_isBetter 50 = .ok (.iconst 0, 1) := by decide +kernel
theorem dX6_isBetter_51 : decode cX6_isBetter 51 = .ok (.ireturn, 1) := by decide +kernel
theorem dX6_isBetter_52 : decode cX6_isBetter 52 = .ok (.iload 4, 2) := by decide +kernel
theorem dX6_isBetter_54 : decode cX6_isBetter 54 = .ok (.aload_n 0, 1) := by decide +kernel
theorem dX6_isBetter_55 : decode cX6_isBetter 55 = .ok (.getfield 33, 3) := by decide +kernel
theorem dX6_isBetter_58 : decode cX6_isBetter 58 = .ok (.iload_n 1, 1) := by decide +kernel
theorem dX6_isBetter_59 : decode cX6_isBetter 59 = .ok (.iaload, 1) := by decide +kernel
theorem dX6_isBetter_60 : decode cX6_isBetter 60 = .ok (.if_icmp .le 7, 3) := by decide +kernel
theorem dX6_isBetter_63 : decode cX6_isBetter 63 = .ok (.iconst 1, 1) := by decide +kernel
theorem dX6_isBetter_64 : decode cX6_isBetter 64 = .ok (.goto 4, 3) := by decide +kernel
theorem dX6_isBetter_67 : decode cX6_isBetter 67 = .ok (.iconst 0, 1) := by decide +kernel
theorem dX6_isBetter_68 : decode cX6_isBetter 68 = .ok (.ireturn, 1) := by decide +kernel
set_option maxRecDepth 20000 in
theorem ggX6_build_X5_cut : GoodIn wsX6_build wsX5_cut := goodIn_r _ [17, 18, 155, 156] (by decide +kernel) (by decide +kernel)
set_option maxRecDepth 20000 in
theorem gX6_build_X5_cut : GoodIn wsX6_build (wsV RX6 101 RX5 yX5_cut wsX5_cut) := goodIn_app (goodIn_of _ (by decide +kernel)) ggX6_build_X5_cut
set_option maxRecDepth 20000 in
theorem ggX6_build_X5_length : GoodIn wsX6_build wsX5_length := goodIn_r _ [22, 18, 155, 156] (by decide +kernel) (by decide +kernel)
set_option maxRecDepth 20000 in
theorem gX6_build_X5_length : GoodIn wsX6_build (wsV RX6 64 RX5 yX5_length wsX5_length) := goodIn_app (goodIn_of _ (by decide +kernel)) ggX6_build_X5_length
set_option maxRecDepth 20000 in
theorem ggX6_build_X5_get : GoodIn wsX6_build wsX5_get := goodIn_r _ [26, 18, 27, 155, 156] (by decide +kernel) (by decide +kernel)
set_option maxRecDepth 20000 in
theorem gX6_build_X5_get : GoodIn wsX6_build (wsV RX6 85 RX5 yX5_get wsX5_get) := goodIn_app (goodIn_of _ (by decide +kernel)) ggX6_build_X5_get
set_option maxRecDepth 20000 in
theorem ggX6_build_X5_add : GoodIn wsX6_build wsX5_add := goodIn_r _ [31, 18, 27, 155, 156] (by decide +kernel) (by decide +kernel)
set_option maxRecDepth 20000 in
theorem gX6_build_X5_add : GoodIn wsX6_build (wsV RX6 132 RX5 yX5_add wsX5_add) := goodIn_app (goodIn_of _ (by decide +kernel)) ggX6_build_X5_add
set_option maxRecDepth 20000 in
theorem ggX6_build_X5_takeAll : GoodIn wsX6_build wsX5_takeAll := goodIn_r _ [35, 18, 36, 37, 38, 16, 39, 27, 40, 41, 42, 43, 155, 156] (by decide +kernel) (by decide +kernel)
set_option maxRecDepth 20000 in
theorem gX6_build_X5_takeAll : GoodIn wsX6_build (wsV RX6 136 RX5 yX5_takeAll wsX5_takeAll) := goodIn_app (goodIn_of _ (by decide +kernel)) ggX6_build_X5_takeAll
set_option maxRecDepth 20000 in
theorem ggX6_build_X4_takeOff : GoodIn wsX6_build wsX4_takeOff := goodIn_r _ [48, 49, 50, 51, 52, 53, 54, 55, 56, 57, 58, 59, 60, 61, 62, 63, 64, 65, 14, 15, 16, 17, 18, 66, 20, 21, 22, 67, 24, 25, 26, 27, 68, 69, 70, 71, 72, 73, 29, 30, 31, 74, 75, 76, 77, 78, 79, 80, 81, 82, 83, 84, 85, 86, 87, 88, 89, 90, 91, 92, 93, 94, 95, 96, 97, 98, 99, 100, 101, 102, 103, 104, 105, 11, 3, 12, 106, 107, 108, 109, 110, 111, 112, 113, 114, 115, 116, 117, 118, 119, 120, 121, 122, 123, 124, 125, 126, 127, 128, 129, 130, 131, 132, 133, 134, 135, 136, 137, 138, 139, 140, 141, 157, 158, 159, 160, 161, 162, 163, 155, 156, 164, 165, 166, 167, 168, 169] (by decide +kernel) (by decide +kernel)
set_option maxRecDepth 20000 in
theorem gX6_build_X4_takeOff : GoodIn wsX6_build (wsV RX6 140 RX4 yX4_takeOff wsX4_takeOff) := goodIn_app (goodIn_of _ (by decide +kernel)) ggX6_build_X4_takeOff
set_option maxRecDepth 20000 in
theorem ggX6_build_X5_addAll : GoodIn wsX6_build wsX5_addAll := goodIn_r _ [39, 18, 27, 40, 41, 42, 43, 155, 156] (by decide +kernel) (by decide +kernel)
set_option maxRecDepth 20000 in
theorem gX6_build_X5_addAll : GoodIn wsX6_build (wsV RX6 144 RX5 yX5_addAll wsX5_addAll) := goodIn_app (goodIn_of _ (by decide +kernel)) ggX6_build_X5_addAll
theorem dX6_build_0 : decode cX6_build 0 = .ok (.aload_n 2, 1) := by decide +kernel
theorem dX6_build_1 : decode cX6_build 1 = .ok (.iconst 0, 1) := by decide +kernel
theorem dX6_build_2 : decode cX6_build 2 = .ok (.invokevirtual 101, 3) := by decide +kernel
theorem dX6_build_5 : decode cX6_build 5 = .ok (.aload_n 1, 1) := by decide +kernel
theorem dX6_build_6 : decode cX6_build 6 = .ok (.invokevirtual 64, 3) := by decide +kernel
theorem dX6_build_9 : decode cX6_build 9 = .ok (.bipush 60, 2) := by decide +kernel
theorem dX6_build_11 : decode cX6_build 11 = .ok (.invokestatic 68, 3) := by decide +kernel
theorem dX6_build_14 : decode cX6_build 14 = .ok (.istore_n 3, 1) := by decide +kernel
theorem dX6_build_15 : decode cX6_build 15 = .ok (.iconst 0, 1) := by decide +kernel
theorem dX6_build_16 : decode cX6_build 16 = .ok (.istore 4, 2) := by decide +kernel
theorem dX6_build_18 : decode cX6_build 18 = .ok (.iload 4, 2) := by decide +kernel
theorem dX6_build_20 : decode cX6_build 20 = .ok (.iload_n 3, 1) := by decide +kernel
theorem dX6_build_21 : decode cX6_build 21 = .ok (.if_icmp .ge 132, 3) := by decide +kernel
theorem dX6_build_24 : decode cX6_build 24 = .ok (.aload_n 0, 1) := by decide +kernel
theorem dX6_build_25 : decode cX6_build 25 = .ok (.getfield 20, 3) := by decide +kernel
theorem dX6_build_28 : decode cX6_build 28 = .ok (.iconst 0, 1) := by decide +kernel
theorem dX6_build_29 : decode cX6_build 29 = .ok (.invokevirtual 101, 3) := by decide +kernel
theorem dX6_build_32 : decode cX6_build 32 = .ok (.iload 4, 2) := by decide +kernel
theorem dX6_build_34 : decode cX6_build 34 = .ok (.istore 5, 2) := by decide +kernel
theorem dX6_build_36 : decode cX6_build 36 = .ok (.iload 5, 2) := by decide +kernel
theorem dX6_build_38 : decode cX6_build 38 = .ok (.aload_n 0, 1) := by decide +kernel
theorem dX6_build_39 : decode cX6_build 39 = .ok (.getfield 33, 3) := by decide +kernel
theorem dX6_build_42 : decode cX6_build 42 = .ok (.iload 4, 2) := by decide +kernel
theorem dX6_build_44 : decode cX6_build 44 = .ok (.iaload, 1) := by decide +kernel
theorem dX6_build_45 : decode cX6_build 45 = .ok (.if_icmp .ge 23, 3) := by decide +kernel
theorem dX6_build_48 : decode cX6_build 48 = .ok (.aload_n 0, 1) := by decide +kernel
theorem dX6_build_49 : decode cX6_build 49 = .ok (.getfield 20, 3) := by decide +kernel
theorem dX6_build_52 : decode cX6_build 52 = .ok (.aload_n 1, 1) := by decide +kernel
theorem dX6_build_53 : decode cX6_build 53 = .ok (.iload 5, 2) := by decide +kernel
theorem dX6_build_55 : decode cX6_build 55 = .ok (.invokevirtual 85, 3) := by decide +kernel
theorem dX6_build_58 : decode cX6_build 58 = .ok (.invokevirtual 132, 3) := by decide +kernel
theorem dX6_build_61 : decode cX6_build 61 = .ok (.pop, 1) := by decide +kernel
theorem dX6_build_62 : decode cX6_build 62 = .ok (.iinc 5 1, 3) := by decide +kernel
theorem dX6_build_65 : decode cX6_build 65 = .ok (.goto (-29), 3) := by decide +kernel
theorem dX6_build_68 : decode cX6_build 68 = .ok (.aload_n 0, 1) := by decide +kernel
theorem dX6_build_69 : decode cX6_build 69 = .ok (.getfield 36, 3) := by decide +kernel
theorem dX6_build_72 : decode cX6_build 72 = .ok (.iload 4, 2) := by decide +kernel
theorem dX6_build_74 : decode cX6_build 74 = .ok (.iaload, 1) := by decide +kernel
theorem dX6_build_75 : decode cX6_build 75 = .ok (.iconst (-1), 1) := by decide +kernel
theorem dX6_build_76 : decode cX6_build 76 = .ok (.if_icmp .ne 18, 3) := by decide +kernel
theorem dX6_build_79 : decode cX6_build 79 = .ok (.aload_n 0, 1) := by decide +kernel
theorem dX6_build_80 : decode cX6_build 80 = .ok (.getfield 23, 3) := by decide +kernel
theorem dX6_build_83 : decode cX6_build 83 = .ok (.aload_n 0, 1) := by decide +kernel
theorem dX6_build_84 : decode cX6_build 84 = .ok (.getfield 20, 3) := by decide +kernel
theorem dX6_build_87 : decode cX6_build 87 = .ok (.invokevirtual 136, 3) := by decide +kernel
theorem dX6_build_90 : decode cX6_build 90 = .ok (.pop, 1) := by decide +kernel
theorem dX6_build_91 : decode cX6_build 91 = .ok (.goto 30, 3) := by decide +kernel
theorem dX6_build_94 : decode cX6_build 94 = .ok (.aload_n 0, 1) := by decide +kernel
theorem dX6_build_95 : decode cX6_build 95 = .ok (.getfield 43, 3) := by decide +kernel
theorem dX6_build_98 : decode cX6_build 98 = .ok (.aload_n 0, 1) := by decide +kernel
theorem dX6_build_99 : decode cX6_build 99 = .ok (.getfield 36, 3) := by decide +kernel
theorem dX6_build_102 : decode cX6_build 102 = .ok (.iload 4, 2) := by decide +kernel
theorem dX6_build_104 : decode cX6_build 104 = .ok (.iaload, 1) := by decide +kernel
theorem dX6_build_105 : decode cX6_build 105 = .ok (.aload_n 0, 1) := by decide +kernel
theorem dX6_build_106 : decode cX6_build 106 = .ok (.getfield 20, 3) := by decide +kernel
theorem dX6_build_109 : decode cX6_build 109 = .ok (.aload_n 0, 1) := by decide +kernel
theorem dX6_build_110 : decode cX6_build 110 = .ok (.getfield 23, 3) := by decide +kernel
theorem dX6_build_113 : decode cX6_build 113 = .ok (.invokevirtual 140, 3) := by decide +kernel
theorem dX6_build_116 : decode cX6_build 116 = .ok (.ifCond .ne 5, 3) := by decide +kernel
theorem dX6_build_119 : decode cX6_build 119 = .ok (.iconst 0, 1) := by decide +kernel
theorem dX6_build_120 : decode cX6_build 120 = .ok (.ireturn, 1) := by decide +kernel
theorem dX6_build_121 : decode cX6_build 121 = .ok (.aload_n 2, 1) := by decide +kernel
theorem dX6_build_122 : decode cX6_build 122 = .ok (.aload_n 0, 1) := by decide +kernel
theorem dX6_build_123 : decode cX6_build 123 = .ok (.getfield 23, 3) := by decide +kernel
theorem dX6_build_126 : decode cX6_build 126 = .ok (.invokevirtual 144, 3) := by decide +kernel
theorem dX6_build_129 : decode cX6_build 129 = .ok (.ifCond .ne 5, 3) := by decide +kernel
theorem dX6_build_132 : decode cX6_build 132 = .ok (.iconst 0, 1) := by decide +kernel
theorem dX6_build_133 : decode cX6_build 133 = .ok (.ireturn, 1) := by decide +kernel
theorem dX6_build_134 : decode cX6_build 134 = .ok (.iload 4, 2) := by decide +kernel
theorem dX6_build_136 : decode cX6_build 136 = .ok (.iconst 1, 1) := by decide +kernel
theorem dX6_build_137 : decode cX6_build 137 = .ok (.iadd, 1) := by decide +kernel
theorem dX6_build_138 : decode cX6_build 138 = .ok (.aload_n 0, 1) := by decide +kernel
theorem dX6_build_139 : decode cX6_build 139 = .ok (.getfield 33, 3) := by decide +kernel
theorem dX6_build_142 : decode cX6_build 142 = .ok (.iload 4, 2) := by decide +kernel
theorem dX6_build_144 : decode cX6_build 144 = .ok (.iaload, 1) := by decide +kernel
theorem dX6_build_145 : decode cX6_build 145 = .ok (.invokestatic 147, 3) := by decide +kernel
theorem dX6_build_148 : decode cX6_build 148 = .ok (.istore 4, 2) := by decide +kernel
theorem dX6_build_150 : decode cX6_build 150 = .ok (.goto (-132), 3) := by decide +kernel
theorem dX6_build_153 : decode cX6_build 153 = .ok (.iconst 1, 1) := by decide +kernel
theorem dX6_build_154 : decode cX6_build 154 = .ok (.ireturn, 1) := by decide +kernel
set_option maxRecDepth 20000 in
theorem ggX9_init_X5_init : GoodIn wsX9_init wsX5_init := goodIn_r _ [22, 23, 2, 3, 24, 25, 26, 27, 10, 28, 29, 34, 35] (by decide +kernel) (by decide +kernel)
set_option maxRecDepth 20000 in
theorem gX9_init_X5_init : GoodIn wsX9_init (wsX5_init) := ggX9_init_X5_init
set_option maxRecDepth 20000 in
theorem ggX9_init_J7_fill_53178 : GoodIn wsX9_init wsJ7_fill_53178 := goodIn_r _ [33] (by decide +kernel) (by decide +kernel)
set_option maxRecDepth 20000 in
theorem gX9_init_J7_fill_53178 : GoodIn wsX9_init (va_wsS RX9 53 yJ7_fill_53178 wsJ7_fill_53178) := goodIn_app (goodIn_of _ (by decide +kernel)) ggX9_init_J7_fill_53178
theorem dX9_init_0 : decode cX9_init 0 = .ok (.aload_n 0, 1) := by decide +kernel
theorem dX9_init_1 : decode cX9_init 1 = .ok (.invokespecial 3, 3) := by decide +kernel
theorem dX9_init_4 : decode cX9_init 4 = .ok (.aload_n 0, 1) := by decide +kernel
theorem dX9_init_5 : decode cX9_init 5 = .ok (.new 9, 3) := by decide +kernel
theorem dX9_init_8 : decode cX9_init 8 = .ok (.dup, 1) := by decide +kernel
theorem dX9_init_9 : decode cX9_init 9 = .ok (.sipush 300, 3) := by decide +kernel
theorem dX9_init_12 : decode cX9_init 12 = .ok (.invokespecial 11, 3) := by decide +kernel
theorem dX9_init_15 : decode cX9_init 15 = .ok (.putfield 14, 3) := by decide +kernel
theorem dX9_init_18 : decode cX9_init 18 = .ok (.aload_n 0, 1) := by decide +kernel
theorem dX9_init_19 : decode cX9_init 19 = .ok (.new 9, 3) := by decide +kernel
theorem dX9_init_22 : decode cX9_init 22 = .ok (.dup, 1) := by decide +kernel
theorem dX9_init_23 : decode cX9_init 23 = .ok (.sipush 300, 3) := by decide +kernel
theorem dX9_init_26 : decode cX9_init 26 = .ok (.invokespecial 11, 3) := by decide +kernel
theorem dX9_init_29 : decode cX9_init 29 = .ok (.putfield 20, 3) := by decide +kernel
theorem dX9_init_32 : decode cX9_init 32 = .ok (.aload_n 0, 1) := by decide +kernel
theorem dX9_init_33 : decode cX9_init 33 = .ok (.new 9, 3) := by decide +kernel
theorem dX9_init_36 : decode cX9_init 36 = .ok (.dup, 1) := by decide +kernel
theorem dX9_init_37 : decode cX9_init 37 = .ok (.sipush 300, 3) := by decide +kernel
theorem dX9_init_40 : decode cX9_init 40 = .ok (.invokespecial 11, 3) := by decide +kernel
theorem dX9_init_43 : decode cX9_init 43 = .ok (.putfield 23, 3) := by decide +kernel
theorem dX9_init_46 : decode cX9_init 46 = .ok (.aload_n 0, 1) := by decide +kernel
theorem dX9_init_47 : decode cX9_init 47 = .ok (.sipush 258, 3) := by decide +kernel
theorem dX9_init_50 : decode cX9_init 50 = .ok (.newarray .int, 2) := by decide +kernel
theorem dX9_init_52 : decode cX9_init 52 = .ok (.putfield 26, 3) := by decide +kernel
theorem dX9_init_55 : decode cX9_init 55 = .ok (.aload_n 0, 1) := by decide +kernel
theorem dX9_init_56 : decode cX9_init 56 = .ok (.sipush 258, 3) := by decide +kernel
theorem dX9_init_59 : decode cX9_init 59 = .ok (.newarray .int, 2) := by decide +kernel
theorem dX9_init_61 : decode cX9_init 61 = .ok (.putfield 30, 3) := by decide +kernel
theorem dX9_init_64 : decode cX9_init 64 = .ok (.aload_n 0, 1) := by decide +kernel
theorem dX9_init_65 : decode cX9_init 65 = .ok (.sipush 774, 3) := by decide +kernel
theorem dX9_init_68 : decode cX9_init 68 = .ok (.newarray .int, 2) := by decide +kernel
theorem dX9_init_70 : decode cX9_init 70 = .ok (.putfield 33, 3) := by decide +kernel
theorem dX9_init_73 : decode cX9_init 73 = .ok (.aload_n 0, 1) := by decide +kernel
theorem dX9_init_74 : decode cX9_init 74 = .ok (.sipush 258, 3) := by decide +kernel
theorem dX9_init_77 : decode cX9_init 77 = .ok (.newarray .int, 2) := by decide +kernel
theorem dX9_init_79 : decode cX9_init 79 = .ok (.putfield 36, 3) := by decide +kernel
theorem dX9_init_82 : decode cX9_init 82 = .ok (.aload_n 0, 1) := by decide +kernel
theorem dX9_init_83 : decode cX9_init 83 = .ok (.sipush 258, 3) := by decide +kernel
theorem dX9_init_86 : decode cX9_init 86 = .ok (.newarray .int, 2) := by decide +kernel
theorem dX9_init_88 : decode cX9_init 88 = .ok (.putfield 39, 3) := by decide +kernel
theorem dX9_init_91 : decode cX9_init 91 = .ok (.aload_n 0, 1) := by decide +kernel
theorem dX9_init_92 : decode cX9_init 92 = .ok (.sipush 774, 3) := by decide +kernel
theorem dX9_init_95 : decode cX9_init 95 = .ok (.newarray .int, 2) := by decide +kernel
theorem dX9_init_97 : decode cX9_init 97 = .ok (.putfield 42, 3) := by decide +kernel
theorem dX9_init_100 : decode cX9_init 100 = .ok (.aload_n 0, 1) := by decide +kernel
theorem dX9_init_101 : decode cX9_init 101 = .ok (.aload_n 1, 1) := by decide +kernel
theorem dX9_init_102 : decode cX9_init 102 = .ok (.putfield 45, 3) := by decide +kernel
theorem dX9_init_105 : decode cX9_init 105 = .ok (.aload_n 0, 1) := by decide +kernel
theorem dX9_init_106 : decode cX9_init 106 = .ok (.aload_n 2, 1) := by decide +kernel
theorem dX9_init_107 : decode cX9_init 107 = .ok (.putfield 49, 3) := by decide +kernel
theorem dX9_init_110 : decode cX9_init 110 = .ok (.aload_n 0, 1) := by decide +kernel
theorem dX9_init_111 : decode cX9_init 111 = .ok (.getfield 26, 3) := by decide +kernel
theorem dX9_init_114 : decode cX9_init 114 = .ok (.iconst (-1), 1) := by decide +kernel
theorem dX9_init_115 : decode cX9_init 115 = .ok (.invokestatic 53, 3) := by decide +kernel
theorem dX9_init_118 : decode cX9_init 118 = .ok (.aload_n 0, 1) := by decide +kernel
theorem dX9_init_119 : decode cX9_init 119 = .ok (.iconst 0, 1) := by decide +kernel
theorem dX9_init_120 : decode cX9_init 120 = .ok (.putfield 59, 3) := by decide +kernel
theorem dX9_init_123 : decode cX9_init 123 = .ok (.return_, 1) := by decide +kernel
set_option maxRecDepth 20000 in
theorem ggX9_find_J7_fill_53178 : GoodIn wsX9_find wsJ7_fill_53178 := goodIn_r _ [9] (by decide +kernel) (by decide +kernel)
set_option maxRecDepth 20000 in
theorem gX9_find_J7_fill_53178 : GoodIn wsX9_find (va_wsS RX9 53 yJ7_fill_53178 wsJ7_fill_53178) := goodIn_app (goodIn_of _ (by decide +kernel)) ggX9_find_J7_fill_53178
set_option maxRecDepth 20000 in
theorem ggX9_find_X4_length : GoodIn wsX9_find wsX4_length := goodIn_r _ [14, 15, 183, 184, 185, 186] (by decide +kernel) (by decide +kernel)
set_option maxRecDepth 20000 in
theorem gX9_find_X4_length : GoodIn wsX9_find (wsV RX9 63 RX4 yX4_length wsX4_length) := goodIn_app (goodIn_of _ (by decide +kernel)) ggX9_find_X4_length
set_option maxRecDepth 20000 in
theorem ggX9_find_X4_takeOff : GoodIn wsX9_find wsX4_takeOff := goodIn_r _ [19, 15, 20, 21, 22, 23, 24, 25, 26, 27, 28, 29, 30, 31, 32, 33, 34, 35, 36, 37, 38, 39, 40, 41, 42, 43, 44, 45, 46, 47, 48, 49, 50, 51, 52, 53, 54, 55, 56, 57, 58, 59, 60, 61, 62, 63, 64, 65, 66, 67, 68, 69, 70, 71, 72, 73, 74, 75, 76, 77, 78, 79, 80, 81, 82, 83, 84, 85, 86, 87, 88, 89, 90, 91, 92, 93, 94, 95, 96, 97, 98, 99, 100, 101, 102, 103, 104, 105, 106, 107, 108, 109, 110, 111, 112, 113, 114, 115, 116, 117, 118, 119, 120, 121, 122, 123, 124, 125, 126, 127, 128, 129, 183, 184, 185, 186, 187, 188, 189, 190, 191, 192, 193, 194, 195, 196, 197] (by decide +kernel) (by decide +kernel)
set_option maxRecDepth 20000 in
theorem gX9_find_X4_takeOff : GoodIn wsX9_find (wsV RX9 69 RX4 yX4_takeOff wsX4_takeOff) := goodIn_app (goodIn_of _ (by decide +kernel)) ggX9_find_X4_takeOff
set_option maxRecDepth 20000 in
theorem ggX9_find_X9_note : GoodIn wsX9_find wsX9_note := goodIn_r _ [134, 1, 135, 136, 137, 138, 139, 140, 141, 142, 42, 43, 38, 44, 40, 143, 46, 47, 48, 49, 144, 145, 146, 147, 148, 149, 150, 151, 152, 153, 154, 155, 156, 157, 158, 159, 160, 161, 162, 163, 164, 165, 171, 172, 173, 174, 175, 176, 177, 178, 179, 180, 181, 182, 190, 191, 198, 199, 200] (by decide +kernel) (by decide +kernel)
set_option maxRecDepth 20000 in
theorem gX9_find_X9_note : GoodIn wsX9_find (wsV RX9 73 RX9 yX9_note wsX9_note) := goodIn_app (goodIn_of _ (by decide +kernel)) ggX9_find_X9_note
set_option maxRecDepth 20000 in
theorem ggX9_find_X9_nameHarms : GoodIn wsX9_find wsX9_nameHarms := goodIn_r _ [169, 170, 171, 172, 173, 174, 175, 176, 177, 178, 179, 180, 181, 182] (by decide +kernel) (by decide +kernel)
set_option maxRecDepth 20000 in
theorem gX9_find_X9_nameHarms : GoodIn wsX9_find (wsV RX9 77 RX9 yX9_nameHarms wsX9_nameHarms) := goodIn_app (goodIn_of _ (by decide +kernel)) ggX9_find_X9_nameHarms
theorem dX9_find_0 : decode cX9_find 0 = .ok (.aload_n 0, 1) := by decide +kernel
theorem dX9_find_1 : decode cX9_find 1 = .ok (.getfield 26, 3) := by decide +kernel
theorem dX9_find_4 : decode cX9_find 4 = .ok (.iconst (-1), 1) := by decide +kernel
theorem dX9_find_5 : decode cX9_find 5 = .ok (.invokestatic 53, 3) := by decide +kernel
theorem dX9_find_8 : decode cX9_find 8 = .ok (.aload_n 0, 1) := by decide +kernel
theorem dX9_find_9 : decode cX9_find 9 = .ok (.getfield 45, 3) := by decide +kernel
theorem dX9_find_12 : decode cX9_find 12 = .ok (.invokevirtual 63, 3) := by decide +kernel
theorem dX9_find_15 : decode cX9_find 15 = .ok (.istore_n 3, 1) := by decide +kernel
theorem dX9_find_16 : decode cX9_find 16 = .ok (.iconst 0, 1) := by decide +kernel
theorem dX9_find_17 : decode cX9_find 17 = .ok (.istore 4, 2) := by decide +kernel
theorem dX9_find_19 : decode cX9_find 19 = .ok (.iload 4, 2) := by decide +kernel
theorem dX9_find_21 : decode cX9_find 21 = .ok (.iload_n 3, 1) := by decide +kernel
theorem dX9_find_22 : decode cX9_find 22 = .ok (.if_icmp .ge 206, 3) := by decide +kernel
theorem dX9_find_25 : decode cX9_find 25 = .ok (.aload_n 0, 1) := by decide +kernel
theorem dX9_find_26 : decode cX9_find 26 = .ok (.getfield 45, 3) := by decide +kernel
theorem dX9_find_29 : decode cX9_find 29 = .ok (.iload 4, 2) := by decide +kernel
theorem dX9_find_31 : decode cX9_find 31 = .ok (.aload_n 2, 1) := by decide +kernel
theorem dX9_find_32 : decode cX9_find 32 = .ok (.aload_n 0, 1) := by decide +kernel
theorem dX9_find_33 : decode cX9_find 33 = .ok (.getfield 14, 3) := by decide +kernel
theorem dX9_find_36 : decode cX9_find 36 = .ok (.invokevirtual 69, 3) := by decide +kernel
theorem dX9_find_39 : decode cX9_find 39 = .ok (.ifCond .ne 6, 3) := by decide +kernel
theorem dX9_find_42 : decode cX9_find 42 = .ok (.goto 180, 3) := by decide +kernel
theorem dX9_find_45 : decode cX9_find 45 = .ok (.aload_n 0, 1) := by decide +kernel
theorem dX9_find_46 : decode cX9_find 46 = .ok (.iload 4, 2) := by decide +kernel
theorem dX9_find_48 : decode cX9_find 48 = .ok (.aload_n 0, 1) := by decide +kernel
theorem dX9_find_49 : decode cX9_find 49 = .ok (.getfield 14, 3) := by decide +kernel
theorem dX9_find_52 : decode cX9_find 52 = .ok (.invokevirtual 73, 3) := by decide +kernel
theorem dX9_find_55 : decode cX9_find 55 = .ok (.aload_n 0, 1) := by decide +kernel
theorem dX9_find_56 : decode cX9_find 56 = .ok (.iload 4, 2) := by decide +kernel
theorem dX9_find_58 : decode cX9_find 58 = .ok (.iload 4, 2) := by decide +kernel
theorem dX9_find_60 : decode cX9_find 60 = .ok (.iconst (-1), 1) := by decide +kernel
theorem dX9_find_61 : decode cX9_find 61 = .ok (.iconst (-1), 1) := by decide +kernel
theorem dX9_find_62 : decode cX9_find 62 = .ok (.invokevirtual 77, 3) := by decide +kernel
theorem dX9_find_65 : decode cX9_find 65 = .ok (.iconst 0, 1) := by decide +kernel
theorem dX9_find_66 : decode cX9_find 66 = .ok (.istore 5, 2) := by decide +kernel
theorem dX9_find_68 : decode cX9_find 68 = .ok (.iload_n 1, 1) := by decide +kernel
theorem dX9_find_69 : decode cX9_find 69 = .ok (.iconst 1, 1) := by decide +kernel
theorem dX9_find_70 : decode cX9_find 70 = .ok (.if_icmp .le 152, 3) := by decide +kernel
theorem dX9_find_73 : decode cX9_find 73 = .ok (.iload 5, 2) := by decide +kernel
theorem dX9_find_75 : decode cX9_find 75 = .ok (.iload_n 3, 1) := by decide +kernel
theorem dX9_find_76 : decode cX9_find 76 = .ok (.if_icmp .ge 146, 3) := by decide +kernel
theorem dX9_find_79 : decode cX9_find 79 = .ok (.aload_n 0, 1) := by decide +kernel
theorem dX9_find_80 : decode cX9_find 80 = .ok (.getfield 45, 3) := by decide +kernel
theorem dX9_find_83 : decode cX9_find 83 = .ok (.iload 5, 2) := by decide +kernel
theorem dX9_find_85 : decode cX9_find 85 = .ok (.aload_n 0, 1) := by decide +kernel
theorem dX9_find_86 : decode cX9_find 86 = .ok (.getfield 14, 3) := by decide +kernel
theorem dX9_find_89 : decode cX9_find 89 = .ok (.aload_n 0, 1) := by decide +kernel
theorem dX9_find_90 : decode cX9_find 90 = .ok (.getfield 20, 3) := by decide +kernel
theorem dX9_find_93 : decode cX9_find 93 = .ok (.invokevirtual 69, 3) := by decide +kernel
theorem dX9_find_96 : decode cX9_find 96 = .ok (.ifCond .ne 6, 3) := by decide +kernel
theorem dX9_find_99 : decode cX9_find 99 = .ok (.goto 117, 3) := by decide +kernel
theorem dX9_find_102 : decode cX9_find 102 = .ok (.iload_n 3, 1) := by decide +kernel
theorem dX9_find_103 : decode cX9_find 103 = .ok (.iload 5, 2) := by decide +kernel
theorem dX9_find_105 : decode cX9_find 105 = .ok (.iload_n 3, 1) := by decide +kernel
theorem dX9_find_106 : decode cX9_find 106 = .ok (.imul, 1) := by decide +kernel
theorem dX9_find_107 : decode cX9_find 107 = .ok (.iadd, 1) := by decide +kernel
theorem dX9_find_108 : decode cX9_find 108 = .ok (.iload 4, 2) := by decide +kernel
theorem dX9_find_110 : decode cX9_find 110 = .ok (.iadd, 1) := by decide +kernel
theorem dX9_find_111 : decode cX9_find 111 = .ok (.istore 6, 2) := by decide +kernel
theorem dX9_find_113 : decode cX9_find 113 = .ok (.aload_n 0, 1) := by decide +kernel
theorem dX9_find_114 : decode cX9_find 114 = .ok (.iload 6, 2) := by decide +kernel
theorem dX9_find_116 : decode cX9_find 116 = .ok (.aload_n 0, 1) := by decide +kernel
theorem dX9_find_117 : decode cX9_find 117 = .ok (.getfield 20, 3) := by decide +kernel
theorem dX9_find_120 : decode cX9_find 120 = .ok (.invokevirtual 73, 3) := by decide +kernel
theorem dX9_find_123 : decode cX9_find 123 = .ok (.aload_n 0, 1) := by decide +kernel
theorem dX9_find_124 : decode cX9_find 124 = .ok (.iload 6, 2) := by decide +kernel
theorem dX9_find_126 : decode cX9_find 126 = .ok (.iload 5, 2) := by decide +kernel
theorem dX9_find_128 : decode cX9_find 128 = .ok (.iload 4, 2) := by decide +kernel
theorem dX9_find_130 : decode cX9_find 130 = .ok (.iconst (-1), 1) := by decide +kernel
theorem dX9_find_131 : decode cX9_find 131 = .ok (.invokevirtual 77, 3) := by decide +kernel
theorem dX9_find_134 : decode cX9_find 134 = .ok (.iconst 0, 1) := by decide +kernel
theorem dX9_find_135 : decode cX9_find 135 = .ok (.istore 7, 2) := by decide +kernel
theorem dX9_find_137 : decode cX9_find 137 = .ok (.iload_n 1, 1) := by decide +kernel
theorem dX9_find_138 : decode cX9_find 138 = .ok (.iconst 2, 1) := by decide +kernel
theorem dX9_find_139 : decode cX9_find 139 = .ok (.if_icmp .le 77, 3) := by decide +kernel
theorem dX9_find_142 : decode cX9_find 142 = .ok (.iload 7, 2) := by decide +kernel
theorem dX9_find_144 : decode cX9_find 144 = .ok (.iload_n 3, 1) := by decide +kernel
theorem dX9_find_145 : decode cX9_find 145 = .ok (.if_icmp .ge 71, 3) := by decide +kernel
theorem dX9_find_148 : decode cX9_find 148 = .ok (.aload_n 0, 1) := by decide +kernel
theorem dX9_find_149 : decode cX9_find 149 = .ok (.getfield 45, 3) := by decide +kernel
theorem dX9_find_152 : decode cX9_find 152 = .ok (.iload 7, 2) := by decide +kernel
theorem dX9_find_154 : decode cX9_find 154 = .ok (.aload_n 0, 1) := by decide +kernel
theorem dX9_find_155 : decode cX9_find 155 = .ok (.getfield 20, 3) := by decide +kernel
theorem dX9_find_158 : decode cX9_find 158 = .ok (.aload_n 0, 1) := by decide +kernel
theorem dX9_find_159 : decode cX9_find 159 = .ok (.getfield 23, 3) := by decide +kernel
theorem dX9_find_162 : decode cX9_find 162 = .ok (.invokevirtual 69, 3) := by decide +kernel
theorem dX9_find_165 : decode cX9_find 165 = .ok (.ifCond .eq 45, 3) := by decide +kernel
theorem dX9_find_168 : decode cX9_find 168 = .ok (.iload_n 3, 1) := by decide +kernel
theorem dX9_find_169 : decode cX9_find 169 = .ok (.iload_n 3, 1) := by decide +kernel
theorem dX9_find_170 : decode cX9_find 170 = .ok (.iload_n 3, 1) := by decide +kernel
theorem dX9_find_171 : decode cX9_find 171 = .ok (.imul, 1) := by decide +kernel
theorem dX9_find_172 : decode cX9_find 172 = .ok (.iadd, 1) := by decide +kernel
theorem dX9_find_173 : decode cX9_find 173 = .ok (.iload 7, 2) := by decide +kernel
theorem dX9_find_175 : decode cX9_find 175 = .ok (.iload_n 3, 1) := by decide +kernel
theorem dX9_find_176 : decode cX9_find 176 = .ok (.imul, 1) := by decide +kernel
theorem dX9_find_177 : decode cX9_find 177 = .ok (.iload 5, 2) := by decide +kernel
theorem dX9_find_179 : decode cX9_find 179 = .ok (.iadd, 1) := by decide +kernel
theorem dX9_find_180 : decode cX9_find 180 = .ok (.iload_n 3, 1) := by decide +kernel
theorem dX9_find_181 : decode cX9_find 181 = .ok (.imul, 1) := by decide +kernel
theorem dX9_find_182 : decode cX9_find 182 = .ok (.iadd, 1) := by decide +kernel
theorem dX9_find_183 : decode cX9_find 183 = .ok (.iload 4, 2) := by decide +kernel
theorem dX9_find_185 : decode cX9_find 185 = .ok (.iadd, 1) := by decide +kernel
theorem dX9_find_186 : decode cX9_find 186 = .ok (.istore 8, 2) := by decide +kernel
theorem dX9_find_188 : decode cX9_find 188 = .ok (.aload_n 0, 1) := by decide +kernel
theorem dX9_find_189 : decode cX9_find 189 = .ok (.iload 8, 2) := by decide +kernel
theorem dX9_find_191 : decode cX9_find 191 = .ok (.aload_n 0, 1) := by decide +kernel
theorem dX9_find_192 : decode cX9_find 192 = .ok (.getfield 23, 3) := by decide +kernel
theorem dX9_find_195 : decode cX9_find 195 = .ok (.invokevirtual 73, 3) := by decide +kernel
theorem dX9_find_198 : decode cX9_find 198 = .ok (.aload_n 0, 1) := by decide +kernel
theorem dX9_find_199 : decode cX9_find 199 = .ok (.iload 8, 2) := by decide +kernel
theorem dX9_find_201 : decode cX9_find 201 = .ok (.iload 7, 2) := by decide +kernel
theorem dX9_find_203 : decode cX9_find 203 = .ok (.iload 5, 2) := by decide +kernel
theorem dX9_find_205 : decode cX9_find 205 = .ok (.iload 4, 2) := by decide +kernel
theorem dX9_find_207 : decode cX9_find 207 = .ok (.invokevirtual 77, 3) := by decide +kernel
theorem dX9_find_210 : decode cX9_find 210 = .ok (.iinc 7 1, 3) := by decide +kernel
theorem dX9_find_213 : decode cX9_find 213 = .ok (.goto (-76), 3) := by decide +kernel
theorem dX9_find_216 : decode cX9_find 216 = .ok (.iinc 5 1, 3) := by decide +kernel
theorem dX9_find_219 : decode cX9_find 219 = .ok (.goto (-151), 3) := by decide +kernel
theorem dX9_find_222 : decode cX9_find 222 = .ok (.iinc 4 1, 3) := by decide +kernel
theorem dX9_find_225 : decode cX9_find 225 = .ok (.goto (-206), 3) := by decide +kernel
theorem dX9_find_228 : decode cX9_find 228 = .ok (.return_, 1) := by decide +kernel
set_option maxRecDepth 20000 in
theorem ggX9_note_X3_ofText : GoodIn wsX9_note wsX3_ofText := goodIn_r _ [8, 9, 10, 11, 12, 13, 14, 15, 16, 17, 18, 19, 20, 21, 22, 7, 23, 24, 25, 26, 27, 28, 29, 30, 31, 32, 33, 34, 35, 36, 37, 38, 39, 40, 54, 55, 56, 57, 58] (by decide +kernel) (by decide +kernel)
set_option maxRecDepth 20000 in
theorem gX9_note_X3_ofText : GoodIn wsX9_note (wsV RX9 81 RX3 yX3_ofText wsX3_ofText) := goodIn_app (goodIn_of _ (by decide +kernel)) ggX9_note_X3_ofText
set_option maxRecDepth 20000 in
theorem ggX9_note_X5_length : GoodIn wsX9_note wsX5_length := goodIn_r _ [13, 14, 54, 55] (by decide +kernel) (by decide +kernel)
set_option maxRecDepth 20000 in
theorem gX9_note_X5_length : GoodIn wsX9_note (wsV RX9 87 RX5 yX5_length wsX5_length) := goodIn_app (goodIn_of _ (by decide +kernel)) ggX9_note_X5_length
theorem dX9_note_0 : decode cX9_note 0 = .ok (.iload_n 1, 1) := by decide +kernel
theorem dX9_note_1 : decode cX9_note 1 = .ok (.ifCond .lt 34, 3) := by decide +kernel
theorem dX9_note_4 : decode cX9_note 4 = .ok (.iload_n 1, 1) := by decide +kernel
theorem dX9_note_5 : decode cX9_note 5 = .ok (.sipush 258, 3) := by decide +kernel
theorem dX9_note_8 : decode cX9_note 8 = .ok (.if_icmp .ge 27, 3) := by decide +kernel
theorem dX9_note_11 : decode cX9_note 11 = .ok (.aload_n 0, 1) := by decide +kernel
theorem dX9_note_12 : decode cX9_note 12 = .ok (.getfield 26, 3) := by decide +kernel
theorem dX9_note_15 : decode cX9_note 15 = .ok (.iload_n 1, 1) := by decide +kernel
theorem dX9_note_16 : decode cX9_note 16 = .ok (.aload_n 0, 1) := by decide +kernel
theorem dX9_note_17 : decode cX9_note 17 = .ok (.getfield 49, 3) := by decide +kernel
theorem dX9_note_20 : decode cX9_note 20 = .ok (.aload_n 2, 1) := by decide +kernel
theorem dX9_note_21 : decode cX9_note 21 = .ok (.invokevirtual 81, 3) := by decide +kernel
theorem dX9_note_24 : decode cX9_note 24 = .ok (.iastore, 1) := by decide +kernel
theorem dX9_note_25 : decode cX9_note 25 = .ok (.aload_n 0, 1) := by decide +kernel
theorem dX9_note_26 : decode cX9_note 26 = .ok (.getfield 30, 3) := by decide +kernel
theorem dX9_note_29 : decode cX9_note 29 = .ok (.iload_n 1, 1) := by decide +kernel
theorem dX9_note_30 : decode cX9_note 30 = .ok (.aload_n 2, 1) := by decide +kernel
theorem dX9_note_31 : decode cX9_note 31 = .ok (.invokevirtual 87, 3) := by decide +kernel
theorem dX9_note_34 : decode cX9_note 34 = .ok (.iastore, 1) := by decide +kernel
theorem dX9_note_35 : decode cX9_note 35 = .ok (.return_, 1) := by decide +kernel
theorem dX9_nameHarms_0 : decode cX9_nameHarms 0 = .ok (.iload_n 1, 1) := by decide +kernel
theorem dX9_nameHarms_1 : decode cX9_nameHarms 1 = .ok (.ifCond .lt 42, 3) := by decide +kernel
theorem dX9_nameHarms_4 : decode cX9_nameHarms 4 = .ok (.iload_n 1, 1) := by decide +kernel
theorem dX9_nameHarms_5 : decode cX9_nameHarms 5 = .ok (.sipush 258, 3) := by decide +kernel
theorem dX9_nameHarms_8 : decode cX9_nameHarms 8 = .ok (.if_icmp .ge 35, 3) := by decide +kernel
theorem dX9_nameHarms_11 : decode cX9_nameHarms 11 = .ok (.aload_n 0, 1) := by decide +kernel
theorem dX9_nameHarms_12 : decode cX9_nameHarms 12 = .ok (.getfield 33, 3) := by decide +kernel
theorem dX9_nameHarms_15 : decode cX9_nameHarms 15 = .ok (.iload_n 1, 1) := by decide +kernel
theorem dX9_nameHarms_16 : decode cX9_nameHarms 16 = .ok (.iconst 3, 1) := by decide +kernel
theorem dX9_nameHarms_17 : decode cX9_nameHarms 17 = .ok (.imul, 1) := by decide +kernel
theorem dX9_nameHarms_18 : decode cX9_nameHarms 18 = .ok (.iload_n 2, 1) := by decide +kernel
theorem dX9_nameHarms_19 : decode cX9_nameHarms 19 = .ok (.iastore, 1) := by decide +kernel
theorem dX9_nameHarms_20 : decode cX9_nameHarms 20 = .ok (.aload_n 0, 1) := by decide +kernel
theorem dX9_nameHarms_21 : decode cX9_nameHarms 21 = .ok (.getfield 33, 3) := by decide +kernel
theorem dX9_nameHarms_24 : decode cX9_nameHarms 24 = .ok (.iload_n 1, 1) := by decide +kernel
theorem dX9_nameHarms_25 : decode cX9_nameHarms 25 = .ok (.iconst 3, 1) := by decide +kernel
theorem dX9_nameHarms_26 : decode cX9_nameHarms 26 = .ok (.imul, 1) := by decide +kernel
theorem dX9_nameHarms_27 : decode cX9_nameHarms 27 = .ok (.iconst 1, 1) := by decide +kernel
theorem dX9_nameHarms_28 : decode cX9_nameHarms 28 = .ok (.iadd, 1) := by decide +kernel
theorem dX9_nameHarms_29 : decode cX9_nameHarms 29 = .ok (.iload_n 3, 1) := by decide +kernel
theorem dX9_nameHarms_30 : decode cX9_nameHarms 30 = .ok (.iastore, 1) := by decide +kernel
theorem dX9_nameHarms_31 : decode cX9_nameHarms 31 = .ok (.aload_n 0, 1) := by decide +kernel
theorem dX9_nameHarms_32 : decode cX9_nameHarms 32 = .ok (.getfield 33, 3) := by decide +kernel
theorem dX9_nameHarms_35 : decode cX9_nameHarms 35 = .ok (.iload_n 1, 1) := by decide +kernel
theorem dX9_nameHarms_36 : decode cX9_nameHarms 36 = .ok (.iconst 3, 1) := by decide +kernel
theorem dX9_nameHarms_37 : decode cX9_nameHarms 37 = .ok (.imul, 1) := by decide +kernel
theorem dX9_nameHarms_38 : decode cX9_nameHarms 38 = .ok (.iconst 2, 1) := by decide +kernel
theorem dX9_nameHarms_39 : decode cX9_nameHarms 39 = .ok (.iadd, 1) := by decide +kernel
theorem dX9_nameHarms_40 : decode cX9_nameHarms 40 = .ok (.iload 4, 2) := by decide +kernel
theorem dX9_nameHarms_42 : decode cX9_nameHarms 42 = .ok (.iastore, 1) := by decide +kernel
theorem dX9_nameHarms_43 : decode cX9_nameHarms 43 = .ok (.return_, 1) := by decide +kernel
theorem dX9_keepFound_0 : decode cX9_keepFound 0 = .ok (.aload_n 0, 1) := by decide +kernel
theorem dX9_keepFound_1 : decode cX9_keepFound 1 = .ok (.iconst 0, 1) := by decide +kernel
theorem dX9_keepFound_2 : decode cX9_keepFound 2 = .ok (.putfield 59, 3) := by decide +kernel
theorem dX9_keepFound_5 : decode cX9_keepFound 5 = .ok (.iconst 0, 1) := by decide +kernel
theorem dX9_keepFound_6 : decode cX9_keepFound 6 = .ok (.istore_n 1, 1) := by decide +kernel
theorem dX9_keepFound_7 : decode cX9_keepFound 7 = .ok (.iload_n 1, 1) := by decide +kernel
theorem dX9_keepFound_8 : decode cX9_keepFound 8 = .ok (.sipush 258, 3) := by decide +kernel
theorem dX9_keepFound_11 : decode cX9_keepFound 11 = .ok (.if_icmp .ge 95, 3) := by decide +kernel
theorem dX9_keepFound_14 : decode cX9_keepFound 14 = .ok (.aload_n 0, 1) := by decide +kernel
theorem dX9_keepFound_15 : decode cX9_keepFound 15 = .ok (.getfield 26, 3) := by decide +kernel
theorem dX9_keepFound_18 : decode cX9_keepFound 18 = .ok (.iload_n 1, 1) := by decide +kernel
theorem dX9_keepFound_19 : decode cX9_keepFound 19 = .ok (.iaload, 1) := by decide +kernel
theorem dX9_keepFound_20 : decode cX9_keepFound 20 = .ok (.iconst (-1), 1) := by decide +kernel
theorem dX9_keepFound_21 : decode cX9_keepFound 21 = .ok (.if_icmp .eq 79, 3) := by decide +kernel
theorem dX9_keepFound_24 : decode cX9_keepFound 24 = .ok (.aload_n 0, 1) := by decide +kernel
theorem dX9_keepFound_25 : decode cX9_keepFound 25 = .ok (.getfield 36, 3) := by decide +kernel
theorem dX9_keepFound_28 : decode cX9_keepFound 28 = .ok (.aload_n 0, 1) := by decide +kernel
theorem dX9_keepFound_29 : decode cX9_keepFound 29 = .ok (.getfield 59, 3) := by decide +kernel
theorem dX9_keepFound_32 : decode cX9_keepFound 32 = .ok (.aload_n 0, 1) := by decide +kernel
theorem dX9_keepFound_33 : decode cX9_keepFound 33 = .ok (.getfield 26, 3) := by decide +kernel
theorem dX9_keepFound_36 : decode cX9_keepFound 36 = .ok (.iload_n 1, 1) := by decide +kernel
theorem dX9_keepFound_37 : decode cX9_keepFound 37 = .ok (.iaload, 1) := by decide +kernel
theorem dX9_keepFound_38 : decode cX9_keepFound 38 = .ok (.iastore, 1) := by decide +kernel
theorem dX9_keepFound_39 : decode cX9_keepFound 39 = .ok (.aload_n 0, 1) := by decide +kernel
theorem dX9_keepFound_40 : decode cX9_keepFound 40 = .ok (.getfield 39, 3) := by decide +kernel
theorem dX9_keepFound_43 : decode cX9_keepFound 43 = .ok (.aload_n 0, 1) := by decide +kernel
theorem dX9_keepFound_44 : decode cX9_keepFound 44 = .ok (.getfield 59, 3) := by decide +kernel
theorem dX9_keepFound_47 : decode cX9_keepFound 47 = .ok (.aload_n 0, 1) := by decide +kernel
theorem dX9_keepFound_48 : decode cX9_keepFound 48 = .ok (.getfield 30, 3) := by decide +kernel
theorem dX9_keepFound_51 : decode cX9_keepFound 51 = .ok (.iload_n 1, 1) := by decide +kernel
theorem dX9_keepFound_52 : decode cX9_keepFound 52 = .ok (.iaload, 1) := by decide +kernel
theorem dX9_keepFound_53 : decode cX9_keepFound 53 = .ok (.iastore, 1) := by decide +kernel
theorem dX9_keepFound_54 : decode cX9_keepFound 54 = .ok (.iconst 0, 1) := by decide +kernel
theorem dX9_keepFound_55 : decode cX9_keepFound 55 = .ok (.istore_n 2, 1) := by decide +kernel
theorem dX9_keepFound_56 : decode cX9_keepFound 56 = .ok (.iload_n 2, 1) := by decide +kernel
theorem dX9_keepFound_57 : decode cX9_keepFound 57 = .ok (.iconst 3, 1) := by decide +kernel
theorem dX9_keepFound_58 : decode cX9_keepFound 58 = .ok (.if_icmp .ge 32, 3) := by decide +kernel
theorem dX9_keepFound_61 : decode cX9_keepFound 61 = .ok (.aload_n 0, 1) := by decide +kernel
theorem dX9_keepFound_62 : decode cX9_keepFound 62 = .ok (.getfield 42, 3) := by decide +kernel
theorem dX9_keepFound_65 : decode cX9_keepFound 65 = .ok (.aload_n 0, 1) := by decide +kernel
theorem dX9_keepFound_66 : decode cX9_keepFound 66 = .ok (.getfield 59, 3) := by decide +kernel
theorem dX9_keepFound_69 : decode cX9_keepFound 69 = .ok (.iconst 3, 1) := by decide +kernel
theorem dX9_keepFound_70 : decode cX9_keepFound 70 = .ok (.imul, 1) := by decide +kernel
theorem dX9_keepFound_71 : decode cX9_keepFound 71 = .ok (.iload_n 2, 1) := by decide +kernel
theorem dX9_keepFound_72 : decode cX9_keepFound 72 = .ok (.iadd, 1) := by decide +kernel
theorem dX9_keepFound_73 : decode cX9_keepFound 73 = .ok (.aload_n 0, 1) := by decide +kernel
theorem dX9_keepFound_74 : decode cX9_keepFound 74 = .ok (.getfield 33, 3) := by decide +kernel
theorem dX9_keepFound_77 : decode cX9_keepFound 77 = .ok (.iload_n 1, 1) := by decide +kernel
theorem dX9_keepFound_78 : decode cX9_keepFound 78 = .ok (.iconst 3, 1) := by decide +kernel
theorem dX9_keepFound_79 : decode cX9_keepFound 79 = .ok (.imul, 1) := by decide +kernel
theorem dX9_keepFound_80 : decode cX9_keepFound 80 = .ok (.iload_n 2, 1) := by decide +kernel
theorem dX9_keepFound_81 : decode cX9_keepFound 81 = .ok (.iadd, 1) := by decide +kernel
theorem dX9_keepFound_82 : decode cX9_keepFound 82 = .ok (.iaload, 1) := by decide +kernel
theorem dX9_keepFound_83 : decode cX9_keepFound 83 = .ok (.iastore, 1) := by decide +kernel
theorem dX9_keepFound_84 : decode cX9_keepFound 84 = .ok (.iinc 2 1, 3) := by decide +kernel
theorem dX9_keepFound_87 : decode cX9_keepFound 87 = .ok (.goto (-31), 3) := by decide +kernel
theorem dX9_keepFound_90 : decode cX9_keepFound 90 = .ok (.aload_n 0, 1) := by decide +kernel
theorem dX9_keepFound_91 : decode cX9_keepFound 91 = .ok (.dup, 1) := by decide +kernel
theorem dX9_keepFound_92 : decode cX9_keepFound 92 = .ok (.getfield 59, 3) := by decide +kernel
theorem dX9_keepFound_95 : decode cX9_keepFound 95 = .ok (.iconst 1, 1) := by decide +kernel
theorem dX9_keepFound_96 : decode cX9_keepFound 96 = .ok (.iadd, 1) := by decide +kernel
theorem dX9_keepFound_97 : decode cX9_keepFound 97 = .ok (.putfield 59, 3) := by decide +kernel
theorem dX9_keepFound_100 : decode cX9_keepFound 100 = .ok (.iinc 1 1, 3) := by decide +kernel
theorem dX9_keepFound_103 : decode cX9_keepFound 103 = .ok (.goto (-96), 3) := by decide +kernel
theorem dX9_keepFound_106 : decode cX9_keepFound 106 = .ok (.aload_n 0, 1) := by decide +kernel
theorem dX9_keepFound_107 : decode cX9_keepFound 107 = .ok (.getfield 59, 3) := by decide +kernel
theorem dX9_keepFound_110 : decode cX9_keepFound 110 = .ok (.ireturn, 1) := by decide +kernel
theorem dX9_told_0 : decode cX9_told 0 = .ok (.iload_n 1, 1) := by decide +kernel
theorem dX9_told_1 : decode cX9_told 1 = .ok (.ifCond .lt 11, 3) := by decide +kernel
theorem dX9_told_4 : decode cX9_told 4 = .ok (.iload_n 1, 1) := by decide +kernel
theorem dX9_told_5 : decode cX9_told 5 = .ok (.aload_n 0, 1) := by decide +kernel
theorem dX9_told_6 : decode cX9_told 6 = .ok (.getfield 59, 3) := by decide +kernel
theorem dX9_told_9 : decode cX9_told 9 = .ok (.if_icmp .lt 5, 3) := by decide +kernel
theorem dX9_told_12 : decode cX9_told 12 = .ok (.iconst (-1), 1) := by decide +kernel
theorem dX9_told_13 : decode cX9_told 13 = .ok (.ireturn, 1) := by decide +kernel
theorem dX9_told_14 : decode cX9_told 14 = .ok (.iload_n 1, 1) := by decide +kernel
theorem dX9_told_15 : decode cX9_told 15 = .ok (.iconst 3, 1) := by decide +kernel
theorem dX9_told_16 : decode cX9_told 16 = .ok (.imul, 1) := by decide +kernel
theorem dX9_told_17 : decode cX9_told 17 = .ok (.istore_n 3, 1) := by decide +kernel
theorem dX9_told_18 : decode cX9_told 18 = .ok (.iload_n 2, 1) := by decide +kernel
theorem dX9_told_19 : decode cX9_told 19 = .ok (.tableswitch 110 0 5 #[37, 71, 78, 87, 96, 103], 37) := by decide +kernel
theorem dX9_told_56 : decode cX9_told 56 = .ok (.aload_n 0, 1) := by decide +kernel
theorem dX9_told_57 : decode cX9_told 57 = .ok (.getfield 42, 3) := by decide +kernel
theorem dX9_told_60 : decode cX9_told 60 = .ok (.iload_n 3, 1) := by decide +kernel
theorem dX9_told_61 : decode cX9_told 61 = .ok (.iconst 1, 1) := by decide +kernel
theorem dX9_told_62 : decode cX9_told 62 = .ok (.iadd, 1) := by decide +kernel
theorem dX9_told_63 : decode cX9_told 63 = .ok (.iaload, 1) := by decide +kernel
theorem dX9_told_64 : decode cX9_told 64 = .ok (.iconst (-1), 1) := by decide +kernel
theorem dX9_told_65 : decode cX9_told 65 = .ok (.if_icmp .ne 7, 3) := by decide +kernel
theorem dX9_told_68 : decode cX9_told 68 = .ok (.iconst 1, 1) := by decide +kernel
theorem dX9_told_69 : decode cX9_told 69 = .ok (.goto 20, 3) := by decide +kernel
theorem dX9_told_72 : decode cX9_told 72 = .ok (.aload_n 0, 1) := by decide +kernel
theorem dX9_told_73 : decode cX9_told 73 = .ok (.getfield 42, 3) := by decide +kernel
theorem dX9_told_76 : decode cX9_told 76 = .ok (.iload_n 3, 1) := by decide +kernel
theorem dX9_told_77 : decode cX9_told 77 = .ok (.iconst 2, 1) := by decide +kernel
theorem dX9_told_78 : decode cX9_told 78 = .ok (.iadd, 1) := by decide +kernel
theorem dX9_told_79 : decode cX9_told 79 = .ok (.iaload, 1) := by decide +kernel
theorem dX9_told_80 : decode cX9_told 80 = .ok (.iconst (-1), 1) := by decide +kernel
theorem dX9_told_81 : decode cX9_told 81 = .ok (.if_icmp .ne 7, 3) := by decide +kernel
theorem dX9_told_84 : decode cX9_told 84 = .ok (.iconst 2, 1) := by decide +kernel
theorem dX9_told_85 : decode cX9_told 85 = .ok (.goto 4, 3) := by decide +kernel
theorem dX9_told_88 : decode cX9_told 88 = .ok (.iconst 3, 1) := by decide +kernel
theorem dX9_told_89 : decode cX9_told 89 = .ok (.ireturn, 1) := by decide +kernel
theorem dX9_told_90 : decode cX9_told 90 = .ok (.aload_n 0, 1) := by decide +kernel
theorem dX9_told_91 : decode cX9_told 91 = .ok (.getfield 42, 3) := by decide +kernel
theorem dX9_told_94 : decode cX9_told 94 = .ok (.iload_n 3, 1) := by decide +kernel
theorem dX9_told_95 : decode cX9_told 95 = .ok (.iaload, 1) := by decide +kernel
theorem dX9_told_96 : decode cX9_told 96 = .ok (.ireturn, 1) := by decide +kernel
theorem dX9_told_97 : decode cX9_told 97 = .ok (.aload_n 0, 1) := by decide +kernel
theorem dX9_told_98 : decode cX9_told 98 = .ok (.getfield 42, 3) := by decide +kernel
theorem dX9_told_101 : decode cX9_told 101 = .ok (.iload_n 3, 1) := by decide +kernel
theorem dX9_told_102 : decode cX9_told 102 = .ok (.iconst 1, 1) := by decide +kernel
theorem dX9_told_103 : decode cX9_told 103 = .ok (.iadd, 1) := by decide +kernel
theorem dX9_told_104 : decode cX9_told 104 = .ok (.iaload, 1) := by decide +kernel
theorem dX9_told_105 : decode cX9_told 105 = .ok (.ireturn, 1) := by decide +kernel
theorem dX9_told_106 : decode cX9_told 106 = .ok (.aload_n 0, 1) := by decide +kernel
theorem dX9_told_107 : decode cX9_told 107 = .ok (.getfield 42, 3) := by decide +kernel
theorem dX9_told_110 : decode cX9_told 110 = .ok (.iload_n 3, 1) := by decide +kernel
theorem dX9_told_111 : decode cX9_told 111 = .ok (.iconst 2, 1) := by decide +kernel
theorem dX9_told_112 : decode cX9_told 112 = .ok (.iadd, 1) := by decide +kernel
theorem dX9_told_113 : decode cX9_told 113 = .ok (.iaload, 1) := by decide +kernel
theorem dX9_told_114 : decode cX9_told 114 = .ok (.ireturn, 1) := by decide +kernel
theorem dX9_told_115 : decode cX9_told 115 = .ok (.aload_n 0, 1) := by decide +kernel
theorem dX9_told_116 : decode cX9_told 116 = .ok (.getfield 36, 3) := by decide +kernel
theorem dX9_told_119 : decode cX9_told 119 = .ok (.iload_n 1, 1) := by decide +kernel
theorem dX9_told_120 : decode cX9_told 120 = .ok (.iaload, 1) := by decide +kernel
theorem dX9_told_121 : decode cX9_told 121 = .ok (.ireturn, 1) := by decide +kernel
theorem dX9_told_122 : decode cX9_told 122 = .ok (.aload_n 0, 1) := by decide +kernel
theorem dX9_told_123 : decode cX9_told 123 = .ok (.getfield 39, 3) := by decide +kernel
theorem dX9_told_126 : decode cX9_told 126 = .ok (.iload_n 1, 1) := by decide +kernel
theorem dX9_told_127 : decode cX9_told 127 = .ok (.iaload, 1) := by decide +kernel
theorem dX9_told_128 : decode cX9_told 128 = .ok (.ireturn, 1) := by decide +kernel
theorem dX9_told_129 : decode cX9_told 129 = .ok (.iconst (-1), 1) := by decide +kernel
theorem dX9_told_130 : decode cX9_told 130 = .ok (.ireturn, 1) := by decide +kernel
theorem dX9_cheapest_0 : decode cX9_cheapest 0 = .ok (.iconst (-1), 1) := by decide +kernel
theorem dX9_cheapest_1 : decode cX9_cheapest 1 = .ok (.istore_n 1, 1) := by decide +kernel
theorem dX9_cheapest_2 : decode cX9_cheapest 2 = .ok (.iconst 0, 1) := by decide +kernel
theorem dX9_cheapest_3 : decode cX9_cheapest 3 = .ok (.istore_n 2, 1) := by decide +kernel
theorem dX9_cheapest_4 : decode cX9_cheapest 4 = .ok (.iload_n 2, 1) := by decide +kernel
theorem dX9_cheapest_5 : decode cX9_cheapest 5 = .ok (.sipush 258, 3) := by decide +kernel
theorem dX9_cheapest_8 : decode cX9_cheapest 8 = .ok (.if_icmp .ge 41, 3) := by decide +kernel
theorem dX9_cheapest_11 : decode cX9_cheapest 11 = .ok (.aload_n 0, 1) := by decide +kernel
theorem dX9_cheapest_12 : decode cX9_cheapest 12 = .ok (.getfield 26, 3) := by decide +kernel
theorem dX9_cheapest_15 : decode cX9_cheapest 15 = .ok (.iload_n 2, 1) := by decide +kernel
theorem dX9_cheapest_16 : decode cX9_cheapest 16 = .ok (.iaload, 1) := by decide +kernel
theorem dX9_cheapest_17 : decode cX9_cheapest 17 = .ok (.iconst (-1), 1) := by decide +kernel
theorem dX9_cheapest_18 : decode cX9_cheapest 18 = .ok (.if_icmp .eq 25, 3) := by decide +kernel
theorem dX9_cheapest_21 : decode cX9_cheapest 21 = .ok (.iload_n 1, 1) := by decide +kernel
theorem dX9_cheapest_22 : decode cX9_cheapest 22 = .ok (.iconst (-1), 1) := by decide +kernel
theorem dX9_cheapest_23 : decode cX9_cheapest 23 = .ok (.if_icmp .eq 18, 3) := by decide +kernel
theorem dX9_cheapest_26 : decode cX9_cheapest 26 = .ok (.aload_n 0, 1) := by decide +kernel
theorem dX9_cheapest_27 : decode cX9_cheapest 27 = .ok (.getfield 26, 3) := by decide +kernel
theorem dX9_cheapest_30 : decode cX9_cheapest 30 = .ok (.iload_n 2, 1) := by decide +kernel
theorem dX9_cheapest_31 : decode cX9_cheapest 31 = .ok (.iaload, 1) := by decide +kernel
theorem dX9_cheapest_32 : decode cX9_cheapest 32 = .ok (.aload_n 0, 1) := by decide +kernel
theorem dX9_cheapest_33 : decode cX9_cheapest 33 = .ok (.getfield 26, 3) := by decide +kernel
theorem dX9_cheapest_36 : decode cX9_cheapest 36 = .ok (.iload_n 1, 1) := by decide +kernel
theorem dX9_cheapest_37 : decode cX9_cheapest 37 = .ok (.iaload, 1) := by decide +kernel
theorem dX9_cheapest_38 : decode cX9_cheapest 38 = .ok (.if_icmp .ge 5, 3) := by decide +kernel
theorem dX9_cheapest_41 : decode cX9_cheapest 41 = .ok (.iload_n 2, 1) := by decide +kernel
theorem dX9_cheapest_42 : decode cX9_cheapest 42 = .ok (.istore_n 1, 1) := by decide +kernel
theorem dX9_cheapest_43 : decode cX9_cheapest 43 = .ok (.iinc 2 1, 3) := by decide +kernel
theorem dX9_cheapest_46 : decode cX9_cheapest 46 = .ok (.goto (-42), 3) := by decide +kernel
theorem dX9_cheapest_49 : decode cX9_cheapest 49 = .ok (.iload_n 1, 1) := by decide +kernel
theorem dX9_cheapest_50 : decode cX9_cheapest 50 = .ok (.ireturn, 1) := by decide +kernel
theorem dX9_costAt_0 : decode cX9_costAt 0 = .ok (.iload_n 1, 1) := by decide +kernel
theorem dX9_costAt_1 : decode cX9_costAt 1 = .ok (.ifCond .lt 19, 3) := by decide +kernel
theorem dX9_costAt_4 : decode cX9_costAt 4 = .ok (.iload_n 1, 1) := by decide +kernel
theorem dX9_costAt_5 : decode cX9_costAt 5 = .ok (.sipush 258, 3) := by decide +kernel
theorem dX9_costAt_8 : decode cX9_costAt 8 = .ok (.if_icmp .ge 12, 3) := by decide +kernel
theorem dX9_costAt_11 : decode cX9_costAt 11 = .ok (.aload_n 0, 1) := by decide +kernel
theorem dX9_costAt_12 : decode cX9_costAt 12 = .ok (.getfield 26, 3) := by decide +kernel
theorem dX9_costAt_15 : decode cX9_costAt 15 = .ok (.iload_n 1, 1) := by decide +kernel
theorem dX9_costAt_16 : decode cX9_costAt 16 = .ok (.iaload, 1) := by decide +kernel
theorem dX9_costAt_17 : decode cX9_costAt 17 = .ok (.goto 4, 3) := by decide +kernel
theorem dX9_costAt_20 : decode cX9_costAt 20 = .ok (.iconst (-1), 1) := by decide +kernel
theorem dX9_costAt_21 : decode cX9_costAt 21 = .ok (.ireturn, 1) := by decide +kernel
theorem dX9_numberOf_0 : decode cX9_numberOf 0 = .ok (.iconst 0, 1) := by decide +kernel
theorem dX9_numberOf_1 : decode cX9_numberOf 1 = .ok (.istore_n 2, 1) := by decide +kernel
theorem dX9_numberOf_2 : decode cX9_numberOf 2 = .ok (.iconst 0, 1) := by decide +kernel
theorem dX9_numberOf_3 : decode cX9_numberOf 3 = .ok (.istore_n 3, 1) := by decide +kernel
theorem dX9_numberOf_4 : decode cX9_numberOf 4 = .ok (.iload_n 3, 1) := by decide +kernel
theorem dX9_numberOf_5 : decode cX9_numberOf 5 = .ok (.iload_n 1, 1) := by decide +kernel
theorem dX9_numberOf_6 : decode cX9_numberOf 6 = .ok (.if_icmp .ge 29, 3) := by decide +kernel
theorem dX9_numberOf_9 : decode cX9_numberOf 9 = .ok (.iload_n 3, 1) := by decide +kernel
theorem dX9_numberOf_10 : decode cX9_numberOf 10 = .ok (.sipush 258, 3) := by decide +kernel
theorem dX9_numberOf_13 : decode cX9_numberOf 13 = .ok (.if_icmp .ge 22, 3) := by decide +kernel
theorem dX9_numberOf_16 : decode cX9_numberOf 16 = .ok (.aload_n 0, 1) := by decide +kernel
theorem dX9_numberOf_17 : decode cX9_numberOf 17 = .ok (.getfield 26, 3) := by decide +kernel
theorem dX9_numberOf_20 : decode cX9_numberOf 20 = .ok (.iload_n 3, 1) := by decide +kernel
theorem dX9_numberOf_21 : decode cX9_numberOf 21 = .ok (.iaload, 1) := by decide +kernel
theorem dX9_numberOf_22 : decode cX9_numberOf 22 = .ok (.iconst (-1), 1) := by decide +kernel
theorem dX9_numberOf_23 : decode cX9_numberOf 23 = .ok (.if_icmp .eq 6, 3) := by decide +kernel
theorem dX9_numberOf_26 : decode cX9_numberOf 26 = .ok (.iinc 2 1, 3) := by decide +kernel
theorem dX9_numberOf_29 : decode cX9_numberOf 29 = .ok (.iinc 3 1, 3) := by decide +kernel
theorem dX9_numberOf_32 : decode cX9_numberOf 32 = .ok (.goto (-28), 3) := by decide +kernel
theorem dX9_numberOf_35 : decode cX9_numberOf 35 = .ok (.iload_n 2, 1) := by decide +kernel
theorem dX9_numberOf_36 : decode cX9_numberOf 36 = .ok (.ireturn, 1) := by decide +kernel
set_option maxRecDepth 20000 in
theorem ggX9_build_X5_takeAll : GoodIn wsX9_build wsX5_takeAll := goodIn_r _ [9, 10, 11, 12, 13, 8, 14, 15, 16, 17, 18, 19, 145, 146] (by decide +kernel) (by decide +kernel)
set_option maxRecDepth 20000 in
theorem gX9_build_X5_takeAll : GoodIn wsX9_build (wsV RX9 88 RX5 yX5_takeAll wsX5_takeAll) := goodIn_app (goodIn_of _ (by decide +kernel)) ggX9_build_X5_takeAll
set_option maxRecDepth 20000 in
theorem ggX9_build_X4_takeOff : GoodIn wsX9_build wsX4_takeOff := goodIn_r _ [24, 25, 26, 27, 28, 29, 30, 31, 32, 33, 34, 35, 36, 37, 38, 39, 40, 41, 42, 43, 8, 44, 10, 45, 46, 47, 48, 49, 50, 51, 52, 15, 53, 54, 55, 56, 57, 58, 59, 60, 61, 62, 63, 64, 65, 66, 67, 68, 69, 70, 71, 72, 73, 74, 75, 76, 77, 78, 79, 80, 81, 82, 83, 84, 85, 86, 87, 88, 89, 90, 91, 92, 93, 94, 95, 96, 97, 98, 99, 100, 101, 102, 103, 104, 105, 106, 107, 108, 109, 110, 111, 112, 113, 114, 115, 116, 117, 118, 119, 120, 121, 122, 123, 124, 125, 126, 127, 128, 129, 130, 131, 132, 147, 148, 149, 150, 151, 152, 153, 145, 146, 154, 155, 156, 157, 158, 159] (by decide +kernel) (by decide +kernel)
set_option maxRecDepth 20000 in
theorem gX9_build_X4_takeOff : GoodIn wsX9_build (wsV RX9 69 RX4 yX4_takeOff wsX4_takeOff) := goodIn_app (goodIn_of _ (by decide +kernel)) ggX9_build_X4_takeOff
theorem dX9_build_0 : decode cX9_build 0 = .ok (.iload_n 1, 1) := by decide +kernel
theorem dX9_build_1 : decode cX9_build 1 = .ok (.ifCond .lt 10, 3) := by decide +kernel
theorem dX9_build_4 : decode cX9_build 4 = .ok (.iload_n 1, 1) := by decide +kernel
theorem dX9_build_5 : decode cX9_build 5 = .ok (.sipush 258, 3) := by decide +kernel
theorem dX9_build_8 : decode cX9_build 8 = .ok (.if_icmp .lt 5, 3) := by decide +kernel
theorem dX9_build_11 : decode cX9_build 11 = .ok (.iconst 0, 1) := by decide +kernel
theorem dX9_build_12 : decode cX9_build 12 = .ok (.ireturn, 1) := by decide +kernel
theorem dX9_build_13 : decode cX9_build 13 = .ok (.aload_n 0, 1) := by decide +kernel
theorem dX9_build_14 : decode cX9_build 14 = .ok (.getfield 14, 3) := by decide +kernel
theorem dX9_build_17 : decode cX9_build 17 = .ok (.aload_n 2, 1) := by decide +kernel
theorem dX9_build_18 : decode cX9_build 18 = .ok (.invokevirtual 88, 3) := by decide +kernel
theorem dX9_build_21 : decode cX9_build 21 = .ok (.pop, 1) := by decide +kernel
theorem dX9_build_22 : decode cX9_build 22 = .ok (.iconst 2, 1) := by decide +kernel
theorem dX9_build_23 : decode cX9_build 23 = .ok (.istore 4, 2) := by decide +kernel
theorem dX9_build_25 : decode cX9_build 25 = .ok (.iload 4, 2) := by decide +kernel
theorem dX9_build_27 : decode cX9_build 27 = .ok (.ifCond .lt 62, 3) := by decide +kernel
theorem dX9_build_30 : decode cX9_build 30 = .ok (.aload_n 0, 1) := by decide +kernel
theorem dX9_build_31 : decode cX9_build 31 = .ok (.getfield 33, 3) := by decide +kernel
theorem dX9_build_34 : decode cX9_build 34 = .ok (.iload_n 1, 1) := by decide +kernel
theorem dX9_build_35 : decode cX9_build 35 = .ok (.iconst 3, 1) := by decide +kernel
theorem dX9_build_36 : decode cX9_build 36 = .ok (.imul, 1) := by decide +kernel
theorem dX9_build_37 : decode cX9_build 37 = .ok (.iload 4, 2) := by decide +kernel
theorem dX9_build_39 : decode cX9_build 39 = .ok (.iadd, 1) := by decide +kernel
theorem dX9_build_40 : decode cX9_build 40 = .ok (.iaload, 1) := by decide +kernel
theorem dX9_build_41 : decode cX9_build 41 = .ok (.istore 5, 2) := by decide +kernel
theorem dX9_build_43 : decode cX9_build 43 = .ok (.iload 5, 2) := by decide +kernel
theorem dX9_build_45 : decode cX9_build 45 = .ok (.iconst (-1), 1) := by decide +kernel
theorem dX9_build_46 : decode cX9_build 46 = .ok (.if_icmp .eq 37, 3) := by decide +kernel
theorem dX9_build_49 : decode cX9_build 49 = .ok (.aload_n 0, 1) := by decide +kernel
theorem dX9_build_50 : decode cX9_build 50 = .ok (.getfield 45, 3) := by decide +kernel
theorem dX9_build_53 : decode cX9_build 53 = .ok (.iload 5, 2) := by decide +kernel
theorem dX9_build_55 : decode cX9_build 55 = .ok (.aload_n 0, 1) := by decide +kernel
theorem dX9_build_56 : decode cX9_build 56 = .ok (.getfield 14, 3) := by decide +kernel
theorem dX9_build_59 : decode cX9_build 59 = .ok (.aload_n 0, 1) := by decide +kernel
theorem dX9_build_60 : decode cX9_build 60 = .ok (.getfield 20, 3) := by decide +kernel
theorem dX9_build_63 : decode cX9_build 63 = .ok (.invokevirtual 69, 3) := by decide +kernel
theorem dX9_build_66 : decode cX9_build 66 = .ok (.ifCond .ne 5, 3) := by decide +kernel
theorem dX9_build_69 : decode cX9_build 69 = .ok (.iconst 0, 1) := by decide +kernel
theorem dX9_build_70 : decode cX9_build 70 = .ok (.ireturn, 1) := by decide +kernel
theorem dX9_build_71 : decode cX9_build 71 = .ok (.aload_n 0, 1) := by decide +kernel
theorem dX9_build_72 : decode cX9_build 72 = .ok (.getfield 14, 3) := by decide +kernel
theorem dX9_build_75 : decode cX9_build 75 = .ok (.aload_n 0, 1) := by decide +kernel
theorem dX9_build_76 : decode cX9_build 76 = .ok (.getfield 20, 3) := by decide +kernel
theorem dX9_build_79 : decode cX9_build 79 = .ok (.invokevirtual 88, 3) := by decide +kernel
theorem dX9_build_82 : decode cX9_build 82 = .ok (.pop, 1) := by decide +kernel
theorem dX9_build_83 : decode cX9_build 83 = .ok (.iinc 4 (-1), 3) := by decide +kernel
theorem dX9_build_86 : decode cX9_build 86 = .ok (.goto (-61), 3) := by decide +kernel
theorem dX9_build_89 : decode cX9_build 89 = .ok (.aload_n 3, 1) := by decide +kernel
theorem dX9_build_90 : decode cX9_build 90 = .ok (.aload_n 0, 1) := by decide +kernel
theorem dX9_build_91 : decode cX9_build 91 = .ok (.getfield 14, 3) := by decide +kernel
theorem dX9_build_94 : decode cX9_build 94 = .ok (.invokevirtual 88, 3) := by decide +kernel
theorem dX9_build_97 : decode cX9_build 97 = .ok (.ireturn, 1) := by decide +kernel
