theorem dX2_known_0 : decode cX2_known 0 = .ok (.iload_n 0, 1) := by decide +kernel
theorem dX2_known_1 : decode cX2_known 1 = .ok (.ifCond .lt 12, 3) := by decide +kernel
theorem dX2_known_13 : decode cX2_known 13 = .ok (.iconst 0, 1) := by decide +kernel
theorem dX2_known_14 : decode cX2_known 14 = .ok (.ireturn, 1) := by decide +kernel
theorem dX2_known_4 : decode cX2_known 4 = .ok (.iload_n 0, 1) := by decide +kernel
theorem dX2_known_5 : decode cX2_known 5 = .ok (.iconst 5, 1) := by decide +kernel
theorem dX2_known_6 : decode cX2_known 6 = .ok (.if_icmp .gt 7, 3) := by decide +kernel
theorem dX2_known_9 : decode cX2_known 9 = .ok (.iconst 1, 1) := by decide +kernel
theorem dX2_known_10 : decode cX2_known 10 = .ok (.goto 4, 3) := by decide +kernel
theorem dX2_toldCode_0 : decode cX2_toldCode 0 = .ok (.iload_n 1, 1) := by decide +kernel
theorem dX2_toldCode_1 : decode cX2_toldCode 1 = .ok (.iconst 4, 1) := by decide +kernel
theorem dX2_toldCode_2 : decode cX2_toldCode 2 = .ok (.if_icmp .ne 10, 3) := by decide +kernel
theorem dX2_toldCode_5 : decode cX2_toldCode 5 = .ok (.aload_n 0, 1) := by decide +kernel
theorem dX2_toldCode_6 : decode cX2_toldCode 6 = .ok (.getfield 12, 3) := by decide +kernel
theorem dX2_toldCode_9 : decode cX2_toldCode 9 = .ok (.goto 16, 3) := by decide +kernel
theorem dX2_toldCode_25 : decode cX2_toldCode 25 = .ok (.areturn, 1) := by decide +kernel
theorem dX2_toldCode_12 : decode cX2_toldCode 12 = .ok (.iload_n 1, 1) := by decide +kernel
theorem dX2_toldCode_13 : decode cX2_toldCode 13 = .ok (.iconst 5, 1) := by decide +kernel
theorem dX2_toldCode_14 : decode cX2_toldCode 14 = .ok (.if_icmp .ne 10, 3) := by decide +kernel
theorem dX2_toldCode_17 : decode cX2_toldCode 17 = .ok (.aload_n 0, 1) := by decide +kernel
theorem dX2_toldCode_18 : decode cX2_toldCode 18 = .ok (.getfield 18, 3) := by decide +kernel
theorem dX2_toldCode_21 : decode cX2_toldCode 21 = .ok (.goto 4, 3) := by decide +kernel
theorem dX2_toldCode_24 : decode cX2_toldCode 24 = .ok (.aconst_null, 1) := by decide +kernel
theorem dX2_lengthOf_0 : decode cX2_lengthOf 0 = .ok (.aload_n 0, 1) := by decide +kernel
theorem dX2_lengthOf_1 : decode cX2_lengthOf 1 = .ok (.iload_n 1, 1) := by decide +kernel
set_option maxRecDepth 20000 in
theorem ggX2_lengthOf_X2_toldCode : GoodIn wsX2_lengthOf wsX2_toldCode := goodIn_r _ [5, 6, 7, 14, 15] rfl (by decide +kernel)
set_option maxRecDepth 20000 in
theorem gX2_lengthOf_X2_toldCode : GoodIn wsX2_lengthOf (wsV RX2 21 RX2 yX2_toldCode wsX2_toldCode) := goodIn_app (goodIn_r _ [1, 2, 3, 4] rfl (by decide +kernel)) ggX2_lengthOf_X2_toldCode
theorem dX2_lengthOf_2 : decode cX2_lengthOf 2 = .ok (.invokevirtual 21, 3) := by decide +kernel
theorem dX2_lengthOf_5 : decode cX2_lengthOf 5 = .ok (.astore_n 2, 1) := by decide +kernel
theorem dX2_lengthOf_6 : decode cX2_lengthOf 6 = .ok (.aload_n 2, 1) := by decide +kernel
theorem dX2_lengthOf_7 : decode cX2_lengthOf 7 = .ok (.ifnonnull 7, 3) := by decide +kernel
theorem dX2_lengthOf_14 : decode cX2_lengthOf 14 = .ok (.aload_n 2, 1) := by decide +kernel
set_option maxRecDepth 20000 in
theorem ggX2_lengthOf_X10_length : GoodIn wsX2_lengthOf wsX10_length := goodIn_r _ [12, 13, 16, 17, 18, 19] rfl (by decide +kernel)
set_option maxRecDepth 20000 in
theorem gX2_lengthOf_X10_length : GoodIn wsX2_lengthOf (wsV RX2 25 RX10 yX10_length wsX10_length) := goodIn_app (goodIn_r _ [8, 9, 10, 11] rfl (by decide +kernel)) ggX2_lengthOf_X10_length
theorem dX2_lengthOf_15 : decode cX2_lengthOf 15 = .ok (.invokevirtual 25, 3) := by decide +kernel
theorem dX2_lengthOf_18 : decode cX2_lengthOf 18 = .ok (.ireturn, 1) := by decide +kernel
theorem dX2_lengthOf_10 : decode cX2_lengthOf 10 = .ok (.iconst (-1), 1) := by decide +kernel
theorem dX2_lengthOf_11 : decode cX2_lengthOf 11 = .ok (.goto 7, 3) := by decide +kernel
theorem dX2_letterIn_0 : decode cX2_letterIn 0 = .ok (.iload_n 0, 1) := by decide +kernel
theorem dX2_letterIn_1 : decode cX2_letterIn 1 = .ok (.iconst 4, 1) := by decide +kernel
theorem dX2_letterIn_2 : decode cX2_letterIn 2 = .ok (.ishr, 1) := by decide +kernel
theorem dX2_letterIn_3 : decode cX2_letterIn 3 = .ok (.ireturn, 1) := by decide +kernel
theorem dX2_bytesIn_0 : decode cX2_bytesIn 0 = .ok (.iload_n 0, 1) := by decide +kernel
theorem dX2_bytesIn_1 : decode cX2_bytesIn 1 = .ok (.bipush 15, 2) := by decide +kernel
theorem dX2_bytesIn_3 : decode cX2_bytesIn 3 = .ok (.iand, 1) := by decide +kernel
theorem dX2_bytesIn_4 : decode cX2_bytesIn 4 = .ok (.ireturn, 1) := by decide +kernel
theorem dX2_found_0 : decode cX2_found 0 = .ok (.iload_n 0, 1) := by decide +kernel
theorem dX2_found_1 : decode cX2_found 1 = .ok (.iconst (-1), 1) := by decide +kernel
theorem dX2_found_2 : decode cX2_found 2 = .ok (.if_icmp .ne 7, 3) := by decide +kernel
theorem dX2_found_9 : decode cX2_found 9 = .ok (.iload_n 0, 1) := by decide +kernel
theorem dX2_found_10 : decode cX2_found 10 = .ok (.iconst 4, 1) := by decide +kernel
theorem dX2_found_11 : decode cX2_found 11 = .ok (.ishl, 1) := by decide +kernel
theorem dX2_found_12 : decode cX2_found 12 = .ok (.iload_n 1, 1) := by decide +kernel
theorem dX2_found_13 : decode cX2_found 13 = .ok (.iadd, 1) := by decide +kernel
theorem dX2_found_14 : decode cX2_found 14 = .ok (.ireturn, 1) := by decide +kernel
theorem dX2_found_5 : decode cX2_found 5 = .ok (.iconst (-1), 1) := by decide +kernel
theorem dX2_found_6 : decode cX2_found 6 = .ok (.goto 8, 3) := by decide +kernel
theorem dX2_letterAlone_0 : decode cX2_letterAlone 0 = .ok (.iload_n 1, 1) := by decide +kernel
theorem dX2_letterAlone_1 : decode cX2_letterAlone 1 = .ok (.tableswitch 65 0 3 #[31, 44, 31, 46], 31) := by decide +kernel
theorem dX2_letterAlone_32 : decode cX2_letterAlone 32 = .ok (.iload_n 2, 1) := by decide +kernel
theorem dX2_letterAlone_33 : decode cX2_letterAlone 33 = .ok (.sipush 128, 3) := by decide +kernel
theorem dX2_letterAlone_36 : decode cX2_letterAlone 36 = .ok (.if_icmp .ge 7, 3) := by decide +kernel
theorem dX2_letterAlone_43 : decode cX2_letterAlone 43 = .ok (.iconst (-1), 1) := by decide +kernel
theorem dX2_letterAlone_44 : decode cX2_letterAlone 44 = .ok (.ireturn, 1) := by decide +kernel
theorem dX2_letterAlone_39 : decode cX2_letterAlone 39 = .ok (.iload_n 2, 1) := by decide +kernel
theorem dX2_letterAlone_40 : decode cX2_letterAlone 40 = .ok (.goto 4, 3) := by decide +kernel
theorem dX2_letterAlone_45 : decode cX2_letterAlone 45 = .ok (.iload_n 2, 1) := by decide +kernel
theorem dX2_letterAlone_46 : decode cX2_letterAlone 46 = .ok (.ireturn, 1) := by decide +kernel
theorem dX2_letterAlone_47 : decode cX2_letterAlone 47 = .ok (.iload_n 2, 1) := by decide +kernel
theorem dX2_letterAlone_48 : decode cX2_letterAlone 48 = .ok (.sipush 128, 3) := by decide +kernel
theorem dX2_letterAlone_51 : decode cX2_letterAlone 51 = .ok (.if_icmp .ge 13, 3) := by decide +kernel
theorem dX2_letterAlone_64 : decode cX2_letterAlone 64 = .ok (.iconst (-1), 1) := by decide +kernel
theorem dX2_letterAlone_65 : decode cX2_letterAlone 65 = .ok (.ireturn, 1) := by decide +kernel
theorem dX2_letterAlone_54 : decode cX2_letterAlone 54 = .ok (.iload_n 2, 1) := by decide +kernel
theorem dX2_letterAlone_55 : decode cX2_letterAlone 55 = .ok (.bipush 38, 2) := by decide +kernel
theorem dX2_letterAlone_57 : decode cX2_letterAlone 57 = .ok (.if_icmp .eq 7, 3) := by decide +kernel
theorem dX2_letterAlone_60 : decode cX2_letterAlone 60 = .ok (.iload_n 2, 1) := by decide +kernel
theorem dX2_letterAlone_61 : decode cX2_letterAlone 61 = .ok (.goto 4, 3) := by decide +kernel
theorem dX2_letterAlone_66 : decode cX2_letterAlone 66 = .ok (.aload_n 0, 1) := by decide +kernel
theorem dX2_letterAlone_67 : decode cX2_letterAlone 67 = .ok (.iload_n 1, 1) := by decide +kernel
set_option maxRecDepth 20000 in
theorem ggX2_letterAlone_X2_toldCode : GoodIn wsX2_letterAlone wsX2_toldCode := goodIn_r _ [5, 6, 7, 14, 15] rfl (by decide +kernel)
set_option maxRecDepth 20000 in
theorem gX2_letterAlone_X2_toldCode : GoodIn wsX2_letterAlone (wsV RX2 21 RX2 yX2_toldCode wsX2_toldCode) := goodIn_app (goodIn_r _ [1, 2, 3, 4] rfl (by decide +kernel)) ggX2_letterAlone_X2_toldCode
theorem dX2_letterAlone_68 : decode cX2_letterAlone 68 = .ok (.invokevirtual 21, 3) := by decide +kernel
theorem dX2_letterAlone_71 : decode cX2_letterAlone 71 = .ok (.astore_n 3, 1) := by decide +kernel
theorem dX2_letterAlone_72 : decode cX2_letterAlone 72 = .ok (.aload_n 3, 1) := by decide +kernel
theorem dX2_letterAlone_73 : decode cX2_letterAlone 73 = .ok (.ifnonnull 7, 3) := by decide +kernel
theorem dX2_letterAlone_80 : decode cX2_letterAlone 80 = .ok (.aload_n 3, 1) := by decide +kernel
theorem dX2_letterAlone_81 : decode cX2_letterAlone 81 = .ok (.iload_n 2, 1) := by decide +kernel
set_option maxRecDepth 20000 in
theorem ggX2_letterAlone_X10_letterFor : GoodIn wsX2_letterAlone wsX10_letterFor := goodIn_r _ [12, 13, 16, 17, 18, 19] rfl (by decide +kernel)
set_option maxRecDepth 20000 in
theorem gX2_letterAlone_X10_letterFor : GoodIn wsX2_letterAlone (wsV RX2 29 RX10 yX10_letterFor wsX10_letterFor) := goodIn_app (goodIn_r _ [8, 9, 10, 11] rfl (by decide +kernel)) ggX2_letterAlone_X10_letterFor
theorem dX2_letterAlone_82 : decode cX2_letterAlone 82 = .ok (.invokevirtual 29, 3) := by decide +kernel
theorem dX2_letterAlone_85 : decode cX2_letterAlone 85 = .ok (.ireturn, 1) := by decide +kernel
theorem dX2_letterAlone_76 : decode cX2_letterAlone 76 = .ok (.iconst (-1), 1) := by decide +kernel
theorem dX2_letterAlone_77 : decode cX2_letterAlone 77 = .ok (.goto 8, 3) := by decide +kernel
theorem dX2_isNumbered_0 : decode cX2_isNumbered 0 = .ok (.iload_n 0, 1) := by decide +kernel
theorem dX2_isNumbered_1 : decode cX2_isNumbered 1 = .ok (.sipush 128, 3) := by decide +kernel
theorem dX2_isNumbered_4 : decode cX2_isNumbered 4 = .ok (.if_icmp .ge 9, 3) := by decide +kernel
theorem dX2_isNumbered_13 : decode cX2_isNumbered 13 = .ok (.iconst 1, 1) := by decide +kernel
theorem dX2_isNumbered_14 : decode cX2_isNumbered 14 = .ok (.goto 4, 3) := by decide +kernel
theorem dX2_isNumbered_18 : decode cX2_isNumbered 18 = .ok (.ireturn, 1) := by decide +kernel
theorem dX2_isNumbered_7 : decode cX2_isNumbered 7 = .ok (.iload_n 0, 1) := by decide +kernel
theorem dX2_isNumbered_8 : decode cX2_isNumbered 8 = .ok (.bipush 38, 2) := by decide +kernel
theorem dX2_isNumbered_10 : decode cX2_isNumbered 10 = .ok (.if_icmp .ne 7, 3) := by decide +kernel
theorem dX2_isNumbered_17 : decode cX2_isNumbered 17 = .ok (.iconst 0, 1) := by decide +kernel
theorem dX2_decodeMany_0 : decode cX2_decodeMany 0 = .ok (.aload_n 0, 1) := by decide +kernel
theorem dX2_decodeMany_1 : decode cX2_decodeMany 1 = .ok (.iload_n 1, 1) := by decide +kernel
set_option maxRecDepth 20000 in
theorem ggX2_decodeMany_X5_get : GoodIn wsX2_decodeMany wsX5_get := goodIn_r _ [5, 6, 7, 18, 19] rfl (by decide +kernel)
set_option maxRecDepth 20000 in
theorem gX2_decodeMany_X5_get : GoodIn wsX2_decodeMany (wsV RX2 33 RX5 yX5_get wsX5_get) := goodIn_app (goodIn_r _ [1, 2, 3, 4] rfl (by decide +kernel)) ggX2_decodeMany_X5_get
theorem dX2_decodeMany_2 : decode cX2_decodeMany 2 = .ok (.invokevirtual 33, 3) := by decide +kernel
theorem dX2_decodeMany_5 : decode cX2_decodeMany 5 = .ok (.istore_n 3, 1) := by decide +kernel
theorem dX2_decodeMany_6 : decode cX2_decodeMany 6 = .ok (.iload_n 3, 1) := by decide +kernel
theorem dX2_decodeMany_7 : decode cX2_decodeMany 7 = .ok (.sipush 224, 3) := by decide +kernel
theorem dX2_decodeMany_10 : decode cX2_decodeMany 10 = .ok (.if_icmp .lt 7, 3) := by decide +kernel
theorem dX2_decodeMany_17 : decode cX2_decodeMany 17 = .ok (.iconst 2, 1) := by decide +kernel
theorem dX2_decodeMany_18 : decode cX2_decodeMany 18 = .ok (.istore 4, 2) := by decide +kernel
theorem dX2_decodeMany_20 : decode cX2_decodeMany 20 = .ok (.iload_n 3, 1) := by decide +kernel
theorem dX2_decodeMany_21 : decode cX2_decodeMany 21 = .ok (.sipush 192, 3) := by decide +kernel
theorem dX2_decodeMany_24 : decode cX2_decodeMany 24 = .ok (.if_icmp .lt 18, 3) := by decide +kernel
theorem dX2_decodeMany_42 : decode cX2_decodeMany 42 = .ok (.iconst (-1), 1) := by decide +kernel
theorem dX2_decodeMany_43 : decode cX2_decodeMany 43 = .ok (.ireturn, 1) := by decide +kernel
theorem dX2_decodeMany_27 : decode cX2_decodeMany 27 = .ok (.iload_n 3, 1) := by decide +kernel
theorem dX2_decodeMany_28 : decode cX2_decodeMany 28 = .ok (.sipush 239, 3) := by decide +kernel
theorem dX2_decodeMany_31 : decode cX2_decodeMany 31 = .ok (.if_icmp .gt 11, 3) := by decide +kernel
theorem dX2_decodeMany_34 : decode cX2_decodeMany 34 = .ok (.iload 4, 2) := by decide +kernel
theorem dX2_decodeMany_36 : decode cX2_decodeMany 36 = .ok (.iload_n 2, 1) := by decide +kernel
theorem dX2_decodeMany_37 : decode cX2_decodeMany 37 = .ok (.iload_n 1, 1) := by decide +kernel
theorem dX2_decodeMany_38 : decode cX2_decodeMany 38 = .ok (.isub, 1) := by decide +kernel
theorem dX2_decodeMany_39 : decode cX2_decodeMany 39 = .ok (.if_icmp .le 5, 3) := by decide +kernel
theorem dX2_decodeMany_44 : decode cX2_decodeMany 44 = .ok (.iload 4, 2) := by decide +kernel
theorem dX2_decodeMany_46 : decode cX2_decodeMany 46 = .ok (.iconst 3, 1) := by decide +kernel
theorem dX2_decodeMany_47 : decode cX2_decodeMany 47 = .ok (.if_icmp .ne 11, 3) := by decide +kernel
theorem dX2_decodeMany_58 : decode cX2_decodeMany 58 = .ok (.iload_n 3, 1) := by decide +kernel
theorem dX2_decodeMany_59 : decode cX2_decodeMany 59 = .ok (.sipush 192, 3) := by decide +kernel
theorem dX2_decodeMany_62 : decode cX2_decodeMany 62 = .ok (.isub, 1) := by decide +kernel
theorem dX2_decodeMany_63 : decode cX2_decodeMany 63 = .ok (.istore 5, 2) := by decide +kernel
theorem dX2_decodeMany_65 : decode cX2_decodeMany 65 = .ok (.iconst 1, 1) := by decide +kernel
theorem dX2_decodeMany_66 : decode cX2_decodeMany 66 = .ok (.istore 6, 2) := by decide +kernel
theorem dX2_decodeMany_68 : decode cX2_decodeMany 68 = .ok (.iload 6, 2) := by decide +kernel
theorem dX2_decodeMany_70 : decode cX2_decodeMany 70 = .ok (.iload 4, 2) := by decide +kernel
theorem dX2_decodeMany_72 : decode cX2_decodeMany 72 = .ok (.if_icmp .ge 51, 3) := by decide +kernel
theorem dX2_decodeMany_123 : decode cX2_decodeMany 123 = .ok (.iload 5, 2) := by decide +kernel
theorem dX2_decodeMany_125 : decode cX2_decodeMany 125 = .ok (.iload 4, 2) := by decide +kernel
theorem dX2_decodeMany_127 : decode cX2_decodeMany 127 = .ok (.iconst 3, 1) := by decide +kernel
theorem dX2_decodeMany_128 : decode cX2_decodeMany 128 = .ok (.if_icmp .ne 9, 3) := by decide +kernel
theorem dX2_decodeMany_137 : decode cX2_decodeMany 137 = .ok (.sipush 128, 3) := by decide +kernel
theorem dX2_decodeMany_140 : decode cX2_decodeMany 140 = .ok (.if_icmp .lt 7, 3) := by decide +kernel
theorem dX2_decodeMany_147 : decode cX2_decodeMany 147 = .ok (.iconst 0, 1) := by decide +kernel
theorem dX2_decodeMany_148 : decode cX2_decodeMany 148 = .ok (.istore 6, 2) := by decide +kernel
theorem dX2_decodeMany_150 : decode cX2_decodeMany 150 = .ok (.iload 6, 2) := by decide +kernel
theorem dX2_decodeMany_152 : decode cX2_decodeMany 152 = .ok (.ifCond .eq 21, 3) := by decide +kernel
theorem dX2_decodeMany_173 : decode cX2_decodeMany 173 = .ok (.iconst (-1), 1) := by decide +kernel
theorem dX2_decodeMany_174 : decode cX2_decodeMany 174 = .ok (.ireturn, 1) := by decide +kernel
theorem dX2_decodeMany_143 : decode cX2_decodeMany 143 = .ok (.iconst 1, 1) := by decide +kernel
theorem dX2_decodeMany_144 : decode cX2_decodeMany 144 = .ok (.goto 4, 3) := by decide +kernel
theorem dX2_decodeMany_155 : decode cX2_decodeMany 155 = .ok (.iload 5, 2) := by decide +kernel
set_option maxRecDepth 20000 in
theorem ggX2_decodeMany_X11_isLetter : GoodIn wsX2_decodeMany wsX11_isLetter := goodIn_r _ [10, 11, 12, 13] rfl (by decide +kernel)
set_option maxRecDepth 20000 in
theorem gX2_decodeMany_X11_isLetter_n52 : GoodIn wsX2_decodeMany (wsX11_isLetter) := ggX2_decodeMany_X11_isLetter
theorem dX2_decodeMany_157 : decode cX2_decodeMany 157 = .ok (.invokestatic 52, 3) := by decide +kernel
theorem dX2_decodeMany_160 : decode cX2_decodeMany 160 = .ok (.ifCond .eq 13, 3) := by decide +kernel
theorem dX2_decodeMany_163 : decode cX2_decodeMany 163 = .ok (.iload 5, 2) := by decide +kernel
theorem dX2_decodeMany_165 : decode cX2_decodeMany 165 = .ok (.iload 4, 2) := by decide +kernel
set_option maxRecDepth 20000 in
theorem ggX2_decodeMany_X2_found : GoodIn wsX2_decodeMany wsX2_found := goodIn_r _ [17] rfl (by decide +kernel)
set_option maxRecDepth 20000 in
theorem gX2_decodeMany_X2_found : GoodIn wsX2_decodeMany (va_wsS RX2 42 yX2_found wsX2_found) := goodIn_app (goodIn_r _ [14, 15, 16] rfl (by decide +kernel)) ggX2_decodeMany_X2_found
theorem dX2_decodeMany_167 : decode cX2_decodeMany 167 = .ok (.invokestatic 42, 3) := by decide +kernel
theorem dX2_decodeMany_170 : decode cX2_decodeMany 170 = .ok (.goto 4, 3) := by decide +kernel
theorem dX2_decodeMany_75 : decode cX2_decodeMany 75 = .ok (.aload_n 0, 1) := by decide +kernel
theorem dX2_decodeMany_76 : decode cX2_decodeMany 76 = .ok (.iload_n 1, 1) := by decide +kernel
theorem dX2_decodeMany_77 : decode cX2_decodeMany 77 = .ok (.iload 6, 2) := by decide +kernel
theorem dX2_decodeMany_79 : decode cX2_decodeMany 79 = .ok (.iadd, 1) := by decide +kernel
theorem dX2_decodeMany_80 : decode cX2_decodeMany 80 = .ok (.invokevirtual 33, 3) := by decide +kernel
theorem dX2_decodeMany_83 : decode cX2_decodeMany 83 = .ok (.istore 7, 2) := by decide +kernel
theorem dX2_decodeMany_85 : decode cX2_decodeMany 85 = .ok (.iload 7, 2) := by decide +kernel
theorem dX2_decodeMany_87 : decode cX2_decodeMany 87 = .ok (.sipush 128, 3) := by decide +kernel
theorem dX2_decodeMany_90 : decode cX2_decodeMany 90 = .ok (.if_icmp .lt 11, 3) := by decide +kernel
theorem dX2_decodeMany_101 : decode cX2_decodeMany 101 = .ok (.iconst (-1), 1) := by decide +kernel
theorem dX2_decodeMany_102 : decode cX2_decodeMany 102 = .ok (.ireturn, 1) := by decide +kernel
theorem dX2_decodeMany_93 : decode cX2_decodeMany 93 = .ok (.iload 7, 2) := by decide +kernel
theorem dX2_decodeMany_95 : decode cX2_decodeMany 95 = .ok (.sipush 191, 3) := by decide +kernel
theorem dX2_decodeMany_98 : decode cX2_decodeMany 98 = .ok (.if_icmp .le 5, 3) := by decide +kernel
theorem dX2_decodeMany_103 : decode cX2_decodeMany 103 = .ok (.iload 5, 2) := by decide +kernel
theorem dX2_decodeMany_105 : decode cX2_decodeMany 105 = .ok (.bipush 64, 2) := by decide +kernel
theorem dX2_decodeMany_107 : decode cX2_decodeMany 107 = .ok (.imul, 1) := by decide +kernel
theorem dX2_decodeMany_108 : decode cX2_decodeMany 108 = .ok (.iload 7, 2) := by decide +kernel
theorem dX2_decodeMany_110 : decode cX2_decodeMany 110 = .ok (.iadd, 1) := by decide +kernel
theorem dX2_decodeMany_111 : decode cX2_decodeMany 111 = .ok (.sipush 128, 3) := by decide +kernel
theorem dX2_decodeMany_114 : decode cX2_decodeMany 114 = .ok (.isub, 1) := by decide +kernel
theorem dX2_decodeMany_115 : decode cX2_decodeMany 115 = .ok (.istore 5, 2) := by decide +kernel
theorem dX2_decodeMany_117 : decode cX2_decodeMany 117 = .ok (.iinc 6 1, 3) := by decide +kernel
theorem dX2_decodeMany_120 : decode cX2_decodeMany 120 = .ok (.goto (-52), 3) := by decide +kernel
theorem dX2_decodeMany_13 : decode cX2_decodeMany 13 = .ok (.iconst 3, 1) := by decide +kernel
theorem dX2_decodeMany_14 : decode cX2_decodeMany 14 = .ok (.goto 4, 3) := by decide +kernel
theorem dX2_decodeMany_50 : decode cX2_decodeMany 50 = .ok (.iload_n 3, 1) := by decide +kernel
theorem dX2_decodeMany_51 : decode cX2_decodeMany 51 = .ok (.sipush 224, 3) := by decide +kernel
theorem dX2_decodeMany_54 : decode cX2_decodeMany 54 = .ok (.isub, 1) := by decide +kernel
theorem dX2_decodeMany_55 : decode cX2_decodeMany 55 = .ok (.goto 8, 3) := by decide +kernel
theorem dX2_decodeMany_131 : decode cX2_decodeMany 131 = .ok (.sipush 2048, 3) := by decide +kernel
theorem dX2_decodeMany_134 : decode cX2_decodeMany 134 = .ok (.goto 6, 3) := by decide +kernel
theorem dX2_decodeNumber_0 : decode cX2_decodeNumber 0 = .ok (.aload_n 0, 1) := by decide +kernel
theorem dX2_decodeNumber_1 : decode cX2_decodeNumber 1 = .ok (.iload_n 1, 1) := by decide +kernel
set_option maxRecDepth 20000 in
theorem ggX2_decodeNumber_X5_get : GoodIn wsX2_decodeNumber wsX5_get := goodIn_r _ [5, 6, 7, 21, 22] rfl (by decide +kernel)
set_option maxRecDepth 20000 in
theorem gX2_decodeNumber_X5_get : GoodIn wsX2_decodeNumber (wsV RX2 33 RX5 yX5_get wsX5_get) := goodIn_app (goodIn_r _ [1, 2, 3, 4] rfl (by decide +kernel)) ggX2_decodeNumber_X5_get
theorem dX2_decodeNumber_2 : decode cX2_decodeNumber 2 = .ok (.invokevirtual 33, 3) := by decide +kernel
theorem dX2_decodeNumber_5 : decode cX2_decodeNumber 5 = .ok (.bipush 38, 2) := by decide +kernel
theorem dX2_decodeNumber_7 : decode cX2_decodeNumber 7 = .ok (.if_icmp .ne 22, 3) := by decide +kernel
theorem dX2_decodeNumber_29 : decode cX2_decodeNumber 29 = .ok (.iconst (-1), 1) := by decide +kernel
theorem dX2_decodeNumber_30 : decode cX2_decodeNumber 30 = .ok (.ireturn, 1) := by decide +kernel
theorem dX2_decodeNumber_10 : decode cX2_decodeNumber 10 = .ok (.iload_n 1, 1) := by decide +kernel
theorem dX2_decodeNumber_11 : decode cX2_decodeNumber 11 = .ok (.iconst 1, 1) := by decide +kernel
theorem dX2_decodeNumber_12 : decode cX2_decodeNumber 12 = .ok (.iadd, 1) := by decide +kernel
theorem dX2_decodeNumber_13 : decode cX2_decodeNumber 13 = .ok (.iload_n 2, 1) := by decide +kernel
theorem dX2_decodeNumber_14 : decode cX2_decodeNumber 14 = .ok (.if_icmp .ge 15, 3) := by decide +kernel
theorem dX2_decodeNumber_17 : decode cX2_decodeNumber 17 = .ok (.aload_n 0, 1) := by decide +kernel
theorem dX2_decodeNumber_18 : decode cX2_decodeNumber 18 = .ok (.iload_n 1, 1) := by decide +kernel
theorem dX2_decodeNumber_19 : decode cX2_decodeNumber 19 = .ok (.iconst 1, 1) := by decide +kernel
theorem dX2_decodeNumber_20 : decode cX2_decodeNumber 20 = .ok (.iadd, 1) := by decide +kernel
theorem dX2_decodeNumber_21 : decode cX2_decodeNumber 21 = .ok (.invokevirtual 33, 3) := by decide +kernel
theorem dX2_decodeNumber_24 : decode cX2_decodeNumber 24 = .ok (.bipush 35, 2) := by decide +kernel
theorem dX2_decodeNumber_26 : decode cX2_decodeNumber 26 = .ok (.if_icmp .eq 5, 3) := by decide +kernel
theorem dX2_decodeNumber_31 : decode cX2_decodeNumber 31 = .ok (.iconst 0, 1) := by decide +kernel
theorem dX2_decodeNumber_32 : decode cX2_decodeNumber 32 = .ok (.istore_n 3, 1) := by decide +kernel
theorem dX2_decodeNumber_33 : decode cX2_decodeNumber 33 = .ok (.iload_n 1, 1) := by decide +kernel
theorem dX2_decodeNumber_34 : decode cX2_decodeNumber 34 = .ok (.iconst 2, 1) := by decide +kernel
theorem dX2_decodeNumber_35 : decode cX2_decodeNumber 35 = .ok (.iadd, 1) := by decide +kernel
theorem dX2_decodeNumber_36 : decode cX2_decodeNumber 36 = .ok (.istore 4, 2) := by decide +kernel
theorem dX2_decodeNumber_38 : decode cX2_decodeNumber 38 = .ok (.iload 4, 2) := by decide +kernel
theorem dX2_decodeNumber_40 : decode cX2_decodeNumber 40 = .ok (.iload_n 2, 1) := by decide +kernel
theorem dX2_decodeNumber_41 : decode cX2_decodeNumber 41 = .ok (.if_icmp .ge 112, 3) := by decide +kernel
theorem dX2_decodeNumber_153 : decode cX2_decodeNumber 153 = .ok (.iconst (-1), 1) := by decide +kernel
theorem dX2_decodeNumber_154 : decode cX2_decodeNumber 154 = .ok (.ireturn, 1) := by decide +kernel
theorem dX2_decodeNumber_44 : decode cX2_decodeNumber 44 = .ok (.iload 4, 2) := by decide +kernel
theorem dX2_decodeNumber_46 : decode cX2_decodeNumber 46 = .ok (.iload_n 1, 1) := by decide +kernel
theorem dX2_decodeNumber_47 : decode cX2_decodeNumber 47 = .ok (.bipush 8, 2) := by decide +kernel
theorem dX2_decodeNumber_49 : decode cX2_decodeNumber 49 = .ok (.iadd, 1) := by decide +kernel
theorem dX2_decodeNumber_50 : decode cX2_decodeNumber 50 = .ok (.if_icmp .ge 103, 3) := by decide +kernel
theorem dX2_decodeNumber_53 : decode cX2_decodeNumber 53 = .ok (.aload_n 0, 1) := by decide +kernel
theorem dX2_decodeNumber_54 : decode cX2_decodeNumber 54 = .ok (.iload 4, 2) := by decide +kernel
theorem dX2_decodeNumber_56 : decode cX2_decodeNumber 56 = .ok (.invokevirtual 33, 3) := by decide +kernel
theorem dX2_decodeNumber_59 : decode cX2_decodeNumber 59 = .ok (.istore 5, 2) := by decide +kernel
theorem dX2_decodeNumber_61 : decode cX2_decodeNumber 61 = .ok (.iload 5, 2) := by decide +kernel
theorem dX2_decodeNumber_63 : decode cX2_decodeNumber 63 = .ok (.bipush 59, 2) := by decide +kernel
theorem dX2_decodeNumber_65 : decode cX2_decodeNumber 65 = .ok (.if_icmp .ne 32, 3) := by decide +kernel
theorem dX2_decodeNumber_97 : decode cX2_decodeNumber 97 = .ok (.iload_n 3, 1) := by decide +kernel
theorem dX2_decodeNumber_98 : decode cX2_decodeNumber 98 = .ok (.ifCond .ne 14, 3) := by decide +kernel
theorem dX2_decodeNumber_112 : decode cX2_decodeNumber 112 = .ok (.iconst 0, 1) := by decide +kernel
theorem dX2_decodeNumber_113 : decode cX2_decodeNumber 113 = .ok (.istore 6, 2) := by decide +kernel
theorem dX2_decodeNumber_115 : decode cX2_decodeNumber 115 = .ok (.iload 5, 2) := by decide +kernel
theorem dX2_decodeNumber_117 : decode cX2_decodeNumber 117 = .ok (.bipush 48, 2) := by decide +kernel
theorem dX2_decodeNumber_119 : decode cX2_decodeNumber 119 = .ok (.if_icmp .lt 15, 3) := by decide +kernel
theorem dX2_decodeNumber_134 : decode cX2_decodeNumber 134 = .ok (.iconst (-1), 1) := by decide +kernel
theorem dX2_decodeNumber_135 : decode cX2_decodeNumber 135 = .ok (.ireturn, 1) := by decide +kernel
theorem dX2_decodeNumber_122 : decode cX2_decodeNumber 122 = .ok (.iload 5, 2) := by decide +kernel
theorem dX2_decodeNumber_124 : decode cX2_decodeNumber 124 = .ok (.bipush 57, 2) := by decide +kernel
theorem dX2_decodeNumber_126 : decode cX2_decodeNumber 126 = .ok (.if_icmp .gt 8, 3) := by decide +kernel
theorem dX2_decodeNumber_129 : decode cX2_decodeNumber 129 = .ok (.iload 6, 2) := by decide +kernel
theorem dX2_decodeNumber_131 : decode cX2_decodeNumber 131 = .ok (.ifCond .eq 5, 3) := by decide +kernel
theorem dX2_decodeNumber_136 : decode cX2_decodeNumber 136 = .ok (.iload_n 3, 1) := by decide +kernel
theorem dX2_decodeNumber_137 : decode cX2_decodeNumber 137 = .ok (.bipush 10, 2) := by decide +kernel
theorem dX2_decodeNumber_139 : decode cX2_decodeNumber 139 = .ok (.imul, 1) := by decide +kernel
theorem dX2_decodeNumber_140 : decode cX2_decodeNumber 140 = .ok (.iload 5, 2) := by decide +kernel
theorem dX2_decodeNumber_142 : decode cX2_decodeNumber 142 = .ok (.iadd, 1) := by decide +kernel
theorem dX2_decodeNumber_143 : decode cX2_decodeNumber 143 = .ok (.bipush 48, 2) := by decide +kernel
theorem dX2_decodeNumber_145 : decode cX2_decodeNumber 145 = .ok (.isub, 1) := by decide +kernel
theorem dX2_decodeNumber_146 : decode cX2_decodeNumber 146 = .ok (.istore_n 3, 1) := by decide +kernel
theorem dX2_decodeNumber_147 : decode cX2_decodeNumber 147 = .ok (.iinc 4 1, 3) := by decide +kernel
theorem dX2_decodeNumber_150 : decode cX2_decodeNumber 150 = .ok (.goto (-112), 3) := by decide +kernel
theorem dX2_decodeNumber_101 : decode cX2_decodeNumber 101 = .ok (.iload 5, 2) := by decide +kernel
theorem dX2_decodeNumber_103 : decode cX2_decodeNumber 103 = .ok (.bipush 48, 2) := by decide +kernel
theorem dX2_decodeNumber_105 : decode cX2_decodeNumber 105 = .ok (.if_icmp .ne 7, 3) := by decide +kernel
theorem dX2_decodeNumber_108 : decode cX2_decodeNumber 108 = .ok (.iconst 1, 1) := by decide +kernel
theorem dX2_decodeNumber_109 : decode cX2_decodeNumber 109 = .ok (.goto 4, 3) := by decide +kernel
theorem dX2_decodeNumber_68 : decode cX2_decodeNumber 68 = .ok (.iload_n 3, 1) := by decide +kernel
set_option maxRecDepth 20000 in
theorem ggX2_decodeNumber_X11_isLetter : GoodIn wsX2_decodeNumber wsX11_isLetter := goodIn_r _ [10, 11, 12, 13] rfl (by decide +kernel)
set_option maxRecDepth 20000 in
theorem gX2_decodeNumber_X11_isLetter_n52 : GoodIn wsX2_decodeNumber (wsX11_isLetter) := ggX2_decodeNumber_X11_isLetter
theorem dX2_decodeNumber_69 : decode cX2_decodeNumber 69 = .ok (.invokestatic 52, 3) := by decide +kernel
theorem dX2_decodeNumber_72 : decode cX2_decodeNumber 72 = .ok (.ifCond .eq 23, 3) := by decide +kernel
theorem dX2_decodeNumber_95 : decode cX2_decodeNumber 95 = .ok (.iconst (-1), 1) := by decide +kernel
theorem dX2_decodeNumber_96 : decode cX2_decodeNumber 96 = .ok (.ireturn, 1) := by decide +kernel
theorem dX2_decodeNumber_75 : decode cX2_decodeNumber 75 = .ok (.iload_n 3, 1) := by decide +kernel
set_option maxRecDepth 20000 in
theorem ggX2_decodeNumber_X2_isNumbered : GoodIn wsX2_decodeNumber wsX2_isNumbered := goodIn_r _ [17] rfl (by decide +kernel)
set_option maxRecDepth 20000 in
theorem gX2_decodeNumber_X2_isNumbered : GoodIn wsX2_decodeNumber (va_wsS RX2 56 yX2_isNumbered wsX2_isNumbered) := goodIn_app (goodIn_r _ [14, 15, 16] rfl (by decide +kernel)) ggX2_decodeNumber_X2_isNumbered
theorem dX2_decodeNumber_76 : decode cX2_decodeNumber 76 = .ok (.invokestatic 56, 3) := by decide +kernel
theorem dX2_decodeNumber_79 : decode cX2_decodeNumber 79 = .ok (.ifCond .eq 16, 3) := by decide +kernel
theorem dX2_decodeNumber_82 : decode cX2_decodeNumber 82 = .ok (.iload_n 3, 1) := by decide +kernel
theorem dX2_decodeNumber_83 : decode cX2_decodeNumber 83 = .ok (.iload 4, 2) := by decide +kernel
theorem dX2_decodeNumber_85 : decode cX2_decodeNumber 85 = .ok (.iconst 1, 1) := by decide +kernel
theorem dX2_decodeNumber_86 : decode cX2_decodeNumber 86 = .ok (.iadd, 1) := by decide +kernel
theorem dX2_decodeNumber_87 : decode cX2_decodeNumber 87 = .ok (.iload_n 1, 1) := by decide +kernel
theorem dX2_decodeNumber_88 : decode cX2_decodeNumber 88 = .ok (.isub, 1) := by decide +kernel
set_option maxRecDepth 20000 in
theorem ggX2_decodeNumber_X2_found : GoodIn wsX2_decodeNumber wsX2_found := goodIn_r _ [20] rfl (by decide +kernel)
set_option maxRecDepth 20000 in
theorem gX2_decodeNumber_X2_found : GoodIn wsX2_decodeNumber (va_wsS RX2 42 yX2_found wsX2_found) := goodIn_app (goodIn_r _ [18, 19, 16] rfl (by decide +kernel)) ggX2_decodeNumber_X2_found
theorem dX2_decodeNumber_89 : decode cX2_decodeNumber 89 = .ok (.invokestatic 42, 3) := by decide +kernel
theorem dX2_decodeNumber_92 : decode cX2_decodeNumber 92 = .ok (.goto 4, 3) := by decide +kernel
theorem dX2_decode_0 : decode cX2_decode 0 = .ok (.aload_n 2, 1) := by decide +kernel
theorem dX2_decode_1 : decode cX2_decode 1 = .ok (.iload_n 3, 1) := by decide +kernel
set_option maxRecDepth 20000 in
theorem ggX2_decode_X5_get : GoodIn wsX2_decode wsX5_get := goodIn_r _ [5, 6, 7, 43, 44] rfl (by decide +kernel)
set_option maxRecDepth 20000 in
theorem gX2_decode_X5_get : GoodIn wsX2_decode (wsV RX2 33 RX5 yX5_get wsX5_get) := goodIn_app (goodIn_r _ [1, 2, 3, 4] rfl (by decide +kernel)) ggX2_decode_X5_get
theorem dX2_decode_2 : decode cX2_decode 2 = .ok (.invokevirtual 33, 3) := by decide +kernel
theorem dX2_decode_5 : decode cX2_decode 5 = .ok (.istore 5, 2) := by decide +kernel
theorem dX2_decode_7 : decode cX2_decode 7 = .ok (.iload 5, 2) := by decide +kernel
theorem dX2_decode_9 : decode cX2_decode 9 = .ok (.iconst (-1), 1) := by decide +kernel
theorem dX2_decode_10 : decode cX2_decode 10 = .ok (.if_icmp .eq 9, 3) := by decide +kernel
theorem dX2_decode_19 : decode cX2_decode 19 = .ok (.iconst (-1), 1) := by decide +kernel
theorem dX2_decode_20 : decode cX2_decode 20 = .ok (.ireturn, 1) := by decide +kernel
theorem dX2_decode_13 : decode cX2_decode 13 = .ok (.iload_n 3, 1) := by decide +kernel
theorem dX2_decode_14 : decode cX2_decode 14 = .ok (.iload 4, 2) := by decide +kernel
theorem dX2_decode_16 : decode cX2_decode 16 = .ok (.if_icmp .lt 5, 3) := by decide +kernel
theorem dX2_decode_21 : decode cX2_decode 21 = .ok (.aload_n 0, 1) := by decide +kernel
theorem dX2_decode_22 : decode cX2_decode 22 = .ok (.iload_n 1, 1) := by decide +kernel
theorem dX2_decode_23 : decode cX2_decode 23 = .ok (.iload 5, 2) := by decide +kernel
set_option maxRecDepth 20000 in
theorem ggX2_decode_X2_letterAlone : GoodIn wsX2_decode wsX2_letterAlone := goodIn_r _ [12, 13, 14, 15, 11, 16, 17, 18, 19, 20, 21, 22, 23, 24, 45, 46, 47, 48, 49, 50] rfl (by decide +kernel)
set_option maxRecDepth 20000 in
theorem gX2_decode_X2_letterAlone : GoodIn wsX2_decode (wsV RX2 38 RX2 yX2_letterAlone wsX2_letterAlone) := goodIn_app (goodIn_r _ [8, 9, 10, 11] rfl (by decide +kernel)) ggX2_decode_X2_letterAlone
theorem dX2_decode_25 : decode cX2_decode 25 = .ok (.invokevirtual 38, 3) := by decide +kernel
theorem dX2_decode_28 : decode cX2_decode 28 = .ok (.istore 6, 2) := by decide +kernel
theorem dX2_decode_30 : decode cX2_decode 30 = .ok (.iload 6, 2) := by decide +kernel
theorem dX2_decode_32 : decode cX2_decode 32 = .ok (.iconst (-1), 1) := by decide +kernel
theorem dX2_decode_33 : decode cX2_decode 33 = .ok (.if_icmp .eq 10, 3) := by decide +kernel
theorem dX2_decode_43 : decode cX2_decode 43 = .ok (.iload_n 1, 1) := by decide +kernel
theorem dX2_decode_44 : decode cX2_decode 44 = .ok (.iconst 2, 1) := by decide +kernel
theorem dX2_decode_45 : decode cX2_decode 45 = .ok (.if_icmp .ne 11, 3) := by decide +kernel
theorem dX2_decode_56 : decode cX2_decode 56 = .ok (.iload_n 1, 1) := by decide +kernel
theorem dX2_decode_57 : decode cX2_decode 57 = .ok (.iconst 3, 1) := by decide +kernel
theorem dX2_decode_58 : decode cX2_decode 58 = .ok (.if_icmp .ne 13, 3) := by decide +kernel
theorem dX2_decode_71 : decode cX2_decode 71 = .ok (.iconst (-1), 1) := by decide +kernel
theorem dX2_decode_72 : decode cX2_decode 72 = .ok (.ireturn, 1) := by decide +kernel
theorem dX2_decode_61 : decode cX2_decode 61 = .ok (.aload_n 2, 1) := by decide +kernel
theorem dX2_decode_62 : decode cX2_decode 62 = .ok (.iload_n 3, 1) := by decide +kernel
theorem dX2_decode_63 : decode cX2_decode 63 = .ok (.iload 4, 2) := by decide +kernel
set_option maxRecDepth 20000 in
theorem ggX2_decode_X2_decodeNumber : GoodIn wsX2_decode wsX2_decodeNumber := goodIn_r _ [39, 1, 2, 3, 4, 5, 6, 7, 31, 32, 33, 34, 35, 36, 40, 41, 11, 42, 25, 26, 27, 43, 44] rfl (by decide +kernel)
set_option maxRecDepth 20000 in
theorem gX2_decode_X2_decodeNumber : GoodIn wsX2_decode (va_wsS RX2 49 yX2_decodeNumber wsX2_decodeNumber) := goodIn_app (goodIn_r _ [37, 38, 11] rfl (by decide +kernel)) ggX2_decode_X2_decodeNumber
theorem dX2_decode_65 : decode cX2_decode 65 = .ok (.invokestatic 49, 3) := by decide +kernel
theorem dX2_decode_68 : decode cX2_decode 68 = .ok (.goto 4, 3) := by decide +kernel
theorem dX2_decode_48 : decode cX2_decode 48 = .ok (.aload_n 2, 1) := by decide +kernel
theorem dX2_decode_49 : decode cX2_decode 49 = .ok (.iload_n 3, 1) := by decide +kernel
theorem dX2_decode_50 : decode cX2_decode 50 = .ok (.iload 4, 2) := by decide +kernel
set_option maxRecDepth 20000 in
theorem ggX2_decode_X2_decodeMany : GoodIn wsX2_decode wsX2_decodeMany := goodIn_r _ [30, 1, 2, 3, 4, 5, 6, 7, 31, 32, 33, 34, 35, 36, 25, 26, 11, 27, 43, 44] rfl (by decide +kernel)
set_option maxRecDepth 20000 in
theorem gX2_decode_X2_decodeMany : GoodIn wsX2_decode (va_wsS RX2 45 yX2_decodeMany wsX2_decodeMany) := goodIn_app (goodIn_r _ [28, 29, 11] rfl (by decide +kernel)) ggX2_decode_X2_decodeMany
theorem dX2_decode_52 : decode cX2_decode 52 = .ok (.invokestatic 45, 3) := by decide +kernel
theorem dX2_decode_55 : decode cX2_decode 55 = .ok (.ireturn, 1) := by decide +kernel
theorem dX2_decode_36 : decode cX2_decode 36 = .ok (.iload 6, 2) := by decide +kernel
theorem dX2_decode_38 : decode cX2_decode 38 = .ok (.iconst 1, 1) := by decide +kernel
set_option maxRecDepth 20000 in
theorem ggX2_decode_X2_found : GoodIn wsX2_decode wsX2_found := goodIn_r _ [27] rfl (by decide +kernel)
set_option maxRecDepth 20000 in
theorem gX2_decode_X2_found : GoodIn wsX2_decode (va_wsS RX2 42 yX2_found wsX2_found) := goodIn_app (goodIn_r _ [25, 26, 11] rfl (by decide +kernel)) ggX2_decode_X2_found
theorem dX2_decode_39 : decode cX2_decode 39 = .ok (.invokestatic 42, 3) := by decide +kernel
theorem dX2_decode_42 : decode cX2_decode 42 = .ok (.ireturn, 1) := by decide +kernel
theorem dX2_encodeMany_0 : decode cX2_encodeMany 0 = .ok (.iload_n 0, 1) := by decide +kernel
theorem dX2_encodeMany_1 : decode cX2_encodeMany 1 = .ok (.sipush 128, 3) := by decide +kernel
theorem dX2_encodeMany_4 : decode cX2_encodeMany 4 = .ok (.if_icmp .ge 9, 3) := by decide +kernel
theorem dX2_encodeMany_13 : decode cX2_encodeMany 13 = .ok (.iload_n 0, 1) := by decide +kernel
theorem dX2_encodeMany_14 : decode cX2_encodeMany 14 = .ok (.sipush 2048, 3) := by decide +kernel
theorem dX2_encodeMany_17 : decode cX2_encodeMany 17 = .ok (.if_icmp .ge 19, 3) := by decide +kernel
theorem dX2_encodeMany_36 : decode cX2_encodeMany 36 = .ok (.aload_n 1, 1) := by decide +kernel
theorem dX2_encodeMany_37 : decode cX2_encodeMany 37 = .ok (.sipush 224, 3) := by decide +kernel
theorem dX2_encodeMany_40 : decode cX2_encodeMany 40 = .ok (.iload_n 0, 1) := by decide +kernel
theorem dX2_encodeMany_41 : decode cX2_encodeMany 41 = .ok (.bipush 12, 2) := by decide +kernel
theorem dX2_encodeMany_43 : decode cX2_encodeMany 43 = .ok (.ishr, 1) := by decide +kernel
theorem dX2_encodeMany_44 : decode cX2_encodeMany 44 = .ok (.iadd, 1) := by decide +kernel
set_option maxRecDepth 20000 in
theorem ggX2_encodeMany_X5_add : GoodIn wsX2_encodeMany wsX5_add := goodIn_r _ [5, 6, 7, 8, 9] rfl (by decide +kernel)
set_option maxRecDepth 20000 in
theorem gX2_encodeMany_X5_add : GoodIn wsX2_encodeMany (wsV RX2 59 RX5 yX5_add wsX5_add) := goodIn_app (goodIn_r _ [1, 2, 3, 4] rfl (by decide +kernel)) ggX2_encodeMany_X5_add
theorem dX2_encodeMany_45 : decode cX2_encodeMany 45 = .ok (.invokevirtual 59, 3) := by decide +kernel
theorem dX2_encodeMany_48 : decode cX2_encodeMany 48 = .ok (.ifCond .eq 25, 3) := by decide +kernel
theorem dX2_encodeMany_73 : decode cX2_encodeMany 73 = .ok (.iconst 0, 1) := by decide +kernel
theorem dX2_encodeMany_74 : decode cX2_encodeMany 74 = .ok (.istore_n 2, 1) := by decide +kernel
theorem dX2_encodeMany_75 : decode cX2_encodeMany 75 = .ok (.iload_n 2, 1) := by decide +kernel
theorem dX2_encodeMany_76 : decode cX2_encodeMany 76 = .ok (.ifCond .eq 22, 3) := by decide +kernel
theorem dX2_encodeMany_98 : decode cX2_encodeMany 98 = .ok (.iconst 0, 1) := by decide +kernel
theorem dX2_encodeMany_99 : decode cX2_encodeMany 99 = .ok (.ireturn, 1) := by decide +kernel
theorem dX2_encodeMany_51 : decode cX2_encodeMany 51 = .ok (.aload_n 1, 1) := by decide +kernel
theorem dX2_encodeMany_52 : decode cX2_encodeMany 52 = .ok (.sipush 128, 3) := by decide +kernel
theorem dX2_encodeMany_55 : decode cX2_encodeMany 55 = .ok (.iload_n 0, 1) := by decide +kernel
theorem dX2_encodeMany_56 : decode cX2_encodeMany 56 = .ok (.bipush 6, 2) := by decide +kernel
theorem dX2_encodeMany_58 : decode cX2_encodeMany 58 = .ok (.ishr, 1) := by decide +kernel
theorem dX2_encodeMany_59 : decode cX2_encodeMany 59 = .ok (.bipush 63, 2) := by decide +kernel
theorem dX2_encodeMany_61 : decode cX2_encodeMany 61 = .ok (.iand, 1) := by decide +kernel
theorem dX2_encodeMany_62 : decode cX2_encodeMany 62 = .ok (.iadd, 1) := by decide +kernel
theorem dX2_encodeMany_63 : decode cX2_encodeMany 63 = .ok (.invokevirtual 59, 3) := by decide +kernel
theorem dX2_encodeMany_66 : decode cX2_encodeMany 66 = .ok (.ifCond .eq 7, 3) := by decide +kernel
theorem dX2_encodeMany_69 : decode cX2_encodeMany 69 = .ok (.iconst 1, 1) := by decide +kernel
theorem dX2_encodeMany_70 : decode cX2_encodeMany 70 = .ok (.goto 4, 3) := by decide +kernel
theorem dX2_encodeMany_79 : decode cX2_encodeMany 79 = .ok (.aload_n 1, 1) := by decide +kernel
theorem dX2_encodeMany_80 : decode cX2_encodeMany 80 = .ok (.sipush 128, 3) := by decide +kernel
theorem dX2_encodeMany_83 : decode cX2_encodeMany 83 = .ok (.iload_n 0, 1) := by decide +kernel
theorem dX2_encodeMany_84 : decode cX2_encodeMany 84 = .ok (.bipush 63, 2) := by decide +kernel
theorem dX2_encodeMany_86 : decode cX2_encodeMany 86 = .ok (.iand, 1) := by decide +kernel
theorem dX2_encodeMany_87 : decode cX2_encodeMany 87 = .ok (.iadd, 1) := by decide +kernel
theorem dX2_encodeMany_88 : decode cX2_encodeMany 88 = .ok (.invokevirtual 59, 3) := by decide +kernel
theorem dX2_encodeMany_91 : decode cX2_encodeMany 91 = .ok (.ifCond .eq 7, 3) := by decide +kernel
theorem dX2_encodeMany_94 : decode cX2_encodeMany 94 = .ok (.iconst 1, 1) := by decide +kernel
theorem dX2_encodeMany_95 : decode cX2_encodeMany 95 = .ok (.goto 4, 3) := by decide +kernel
theorem dX2_encodeMany_20 : decode cX2_encodeMany 20 = .ok (.aload_n 1, 1) := by decide +kernel
theorem dX2_encodeMany_21 : decode cX2_encodeMany 21 = .ok (.sipush 192, 3) := by decide +kernel
theorem dX2_encodeMany_24 : decode cX2_encodeMany 24 = .ok (.iload_n 0, 1) := by decide +kernel
theorem dX2_encodeMany_25 : decode cX2_encodeMany 25 = .ok (.bipush 6, 2) := by decide +kernel
theorem dX2_encodeMany_27 : decode cX2_encodeMany 27 = .ok (.ishr, 1) := by decide +kernel
theorem dX2_encodeMany_28 : decode cX2_encodeMany 28 = .ok (.iadd, 1) := by decide +kernel
theorem dX2_encodeMany_29 : decode cX2_encodeMany 29 = .ok (.invokevirtual 59, 3) := by decide +kernel
theorem dX2_encodeMany_32 : decode cX2_encodeMany 32 = .ok (.istore_n 2, 1) := by decide +kernel
theorem dX2_encodeMany_33 : decode cX2_encodeMany 33 = .ok (.goto 42, 3) := by decide +kernel
theorem dX2_encodeMany_7 : decode cX2_encodeMany 7 = .ok (.aload_n 1, 1) := by decide +kernel
theorem dX2_encodeMany_8 : decode cX2_encodeMany 8 = .ok (.iload_n 0, 1) := by decide +kernel
theorem dX2_encodeMany_9 : decode cX2_encodeMany 9 = .ok (.invokevirtual 59, 3) := by decide +kernel
theorem dX2_encodeMany_12 : decode cX2_encodeMany 12 = .ok (.ireturn, 1) := by decide +kernel
theorem dX2_encodeNumber_0 : decode cX2_encodeNumber 0 = .ok (.aload_n 1, 1) := by decide +kernel
theorem dX2_encodeNumber_1 : decode cX2_encodeNumber 1 = .ok (.bipush 38, 2) := by decide +kernel
set_option maxRecDepth 20000 in
theorem ggX2_encodeNumber_X5_add : GoodIn wsX2_encodeNumber wsX5_add := goodIn_r _ [5, 6, 7, 8, 9] rfl (by decide +kernel)
set_option maxRecDepth 20000 in
theorem gX2_encodeNumber_X5_add : GoodIn wsX2_encodeNumber (wsV RX2 59 RX5 yX5_add wsX5_add) := goodIn_app (goodIn_r _ [1, 2, 3, 4] rfl (by decide +kernel)) ggX2_encodeNumber_X5_add
theorem dX2_encodeNumber_3 : decode cX2_encodeNumber 3 = .ok (.invokevirtual 59, 3) := by decide +kernel
theorem dX2_encodeNumber_6 : decode cX2_encodeNumber 6 = .ok (.ifCond .eq 16, 3) := by decide +kernel
theorem dX2_encodeNumber_22 : decode cX2_encodeNumber 22 = .ok (.iconst 0, 1) := by decide +kernel
theorem dX2_encodeNumber_23 : decode cX2_encodeNumber 23 = .ok (.istore_n 2, 1) := by decide +kernel
theorem dX2_encodeNumber_24 : decode cX2_encodeNumber 24 = .ok (.iconst 0, 1) := by decide +kernel
theorem dX2_encodeNumber_25 : decode cX2_encodeNumber 25 = .ok (.istore_n 3, 1) := by decide +kernel
theorem dX2_encodeNumber_26 : decode cX2_encodeNumber 26 = .ok (.sipush 10000, 3) := by decide +kernel
theorem dX2_encodeNumber_29 : decode cX2_encodeNumber 29 = .ok (.istore 4, 2) := by decide +kernel
theorem dX2_encodeNumber_31 : decode cX2_encodeNumber 31 = .ok (.iload 4, 2) := by decide +kernel
theorem dX2_encodeNumber_33 : decode cX2_encodeNumber 33 = .ok (.ifCond .le 63, 3) := by decide +kernel
theorem dX2_encodeNumber_96 : decode cX2_encodeNumber 96 = .ok (.iload_n 2, 1) := by decide +kernel
theorem dX2_encodeNumber_97 : decode cX2_encodeNumber 97 = .ok (.ifCond .eq 16, 3) := by decide +kernel
theorem dX2_encodeNumber_113 : decode cX2_encodeNumber 113 = .ok (.iconst 0, 1) := by decide +kernel
theorem dX2_encodeNumber_114 : decode cX2_encodeNumber 114 = .ok (.ireturn, 1) := by decide +kernel
theorem dX2_encodeNumber_100 : decode cX2_encodeNumber 100 = .ok (.aload_n 1, 1) := by decide +kernel
theorem dX2_encodeNumber_101 : decode cX2_encodeNumber 101 = .ok (.bipush 59, 2) := by decide +kernel
theorem dX2_encodeNumber_103 : decode cX2_encodeNumber 103 = .ok (.invokevirtual 59, 3) := by decide +kernel
theorem dX2_encodeNumber_106 : decode cX2_encodeNumber 106 = .ok (.ifCond .eq 7, 3) := by decide +kernel
theorem dX2_encodeNumber_109 : decode cX2_encodeNumber 109 = .ok (.iconst 1, 1) := by decide +kernel
theorem dX2_encodeNumber_110 : decode cX2_encodeNumber 110 = .ok (.goto 4, 3) := by decide +kernel
theorem dX2_encodeNumber_36 : decode cX2_encodeNumber 36 = .ok (.iload_n 0, 1) := by decide +kernel
theorem dX2_encodeNumber_37 : decode cX2_encodeNumber 37 = .ok (.iload 4, 2) := by decide +kernel
theorem dX2_encodeNumber_39 : decode cX2_encodeNumber 39 = .ok (.idiv, 1) := by decide +kernel
theorem dX2_encodeNumber_40 : decode cX2_encodeNumber 40 = .ok (.bipush 10, 2) := by decide +kernel
theorem dX2_encodeNumber_42 : decode cX2_encodeNumber 42 = .ok (.irem, 1) := by decide +kernel
theorem dX2_encodeNumber_43 : decode cX2_encodeNumber 43 = .ok (.istore 5, 2) := by decide +kernel
theorem dX2_encodeNumber_45 : decode cX2_encodeNumber 45 = .ok (.iload_n 3, 1) := by decide +kernel
theorem dX2_encodeNumber_46 : decode cX2_encodeNumber 46 = .ok (.ifCond .ne 8, 3) := by decide +kernel
theorem dX2_encodeNumber_54 : decode cX2_encodeNumber 54 = .ok (.iconst 1, 1) := by decide +kernel
theorem dX2_encodeNumber_55 : decode cX2_encodeNumber 55 = .ok (.goto 4, 3) := by decide +kernel
theorem dX2_encodeNumber_59 : decode cX2_encodeNumber 59 = .ok (.istore_n 3, 1) := by decide +kernel
theorem dX2_encodeNumber_60 : decode cX2_encodeNumber 60 = .ok (.iload_n 3, 1) := by decide +kernel
theorem dX2_encodeNumber_61 : decode cX2_encodeNumber 61 = .ok (.ifCond .eq 25, 3) := by decide +kernel
theorem dX2_encodeNumber_64 : decode cX2_encodeNumber 64 = .ok (.iload_n 2, 1) := by decide +kernel
theorem dX2_encodeNumber_65 : decode cX2_encodeNumber 65 = .ok (.ifCond .eq 19, 3) := by decide +kernel
theorem dX2_encodeNumber_84 : decode cX2_encodeNumber 84 = .ok (.iconst 0, 1) := by decide +kernel
theorem dX2_encodeNumber_85 : decode cX2_encodeNumber 85 = .ok (.istore_n 2, 1) := by decide +kernel
theorem dX2_encodeNumber_86 : decode cX2_encodeNumber 86 = .ok (.iload 4, 2) := by decide +kernel
theorem dX2_encodeNumber_88 : decode cX2_encodeNumber 88 = .ok (.bipush 10, 2) := by decide +kernel
theorem dX2_encodeNumber_90 : decode cX2_encodeNumber 90 = .ok (.idiv, 1) := by decide +kernel
theorem dX2_encodeNumber_91 : decode cX2_encodeNumber 91 = .ok (.istore 4, 2) := by decide +kernel
theorem dX2_encodeNumber_93 : decode cX2_encodeNumber 93 = .ok (.goto (-62), 3) := by decide +kernel
theorem dX2_encodeNumber_68 : decode cX2_encodeNumber 68 = .ok (.aload_n 1, 1) := by decide +kernel
theorem dX2_encodeNumber_69 : decode cX2_encodeNumber 69 = .ok (.bipush 48, 2) := by decide +kernel
theorem dX2_encodeNumber_71 : decode cX2_encodeNumber 71 = .ok (.iload 5, 2) := by decide +kernel
theorem dX2_encodeNumber_73 : decode cX2_encodeNumber 73 = .ok (.iadd, 1) := by decide +kernel
theorem dX2_encodeNumber_74 : decode cX2_encodeNumber 74 = .ok (.invokevirtual 59, 3) := by decide +kernel
theorem dX2_encodeNumber_77 : decode cX2_encodeNumber 77 = .ok (.ifCond .eq 7, 3) := by decide +kernel
theorem dX2_encodeNumber_80 : decode cX2_encodeNumber 80 = .ok (.iconst 1, 1) := by decide +kernel
theorem dX2_encodeNumber_81 : decode cX2_encodeNumber 81 = .ok (.goto 4, 3) := by decide +kernel
theorem dX2_encodeNumber_49 : decode cX2_encodeNumber 49 = .ok (.iload 5, 2) := by decide +kernel
theorem dX2_encodeNumber_51 : decode cX2_encodeNumber 51 = .ok (.ifCond .eq 7, 3) := by decide +kernel
theorem dX2_encodeNumber_58 : decode cX2_encodeNumber 58 = .ok (.iconst 0, 1) := by decide +kernel
theorem dX2_encodeNumber_9 : decode cX2_encodeNumber 9 = .ok (.aload_n 1, 1) := by decide +kernel
theorem dX2_encodeNumber_10 : decode cX2_encodeNumber 10 = .ok (.bipush 35, 2) := by decide +kernel
theorem dX2_encodeNumber_12 : decode cX2_encodeNumber 12 = .ok (.invokevirtual 59, 3) := by decide +kernel
theorem dX2_encodeNumber_15 : decode cX2_encodeNumber 15 = .ok (.ifCond .eq 7, 3) := by decide +kernel
theorem dX2_encodeNumber_18 : decode cX2_encodeNumber 18 = .ok (.iconst 1, 1) := by decide +kernel
theorem dX2_encodeNumber_19 : decode cX2_encodeNumber 19 = .ok (.goto 4, 3) := by decide +kernel
theorem dX2_encode_0 : decode cX2_encode 0 = .ok (.iload_n 1, 1) := by decide +kernel
theorem dX2_encode_1 : decode cX2_encode 1 = .ok (.tableswitch 100 0 3 #[31, 52, 73, 79], 31) := by decide +kernel
theorem dX2_encode_32 : decode cX2_encode 32 = .ok (.iload_n 2, 1) := by decide +kernel
theorem dX2_encode_33 : decode cX2_encode 33 = .ok (.sipush 128, 3) := by decide +kernel
theorem dX2_encode_36 : decode cX2_encode 36 = .ok (.if_icmp .ge 15, 3) := by decide +kernel
theorem dX2_encode_51 : decode cX2_encode 51 = .ok (.iconst 0, 1) := by decide +kernel
theorem dX2_encode_52 : decode cX2_encode 52 = .ok (.ireturn, 1) := by decide +kernel
theorem dX2_encode_39 : decode cX2_encode 39 = .ok (.aload_n 3, 1) := by decide +kernel
theorem dX2_encode_40 : decode cX2_encode 40 = .ok (.iload_n 2, 1) := by decide +kernel
set_option maxRecDepth 20000 in
theorem ggX2_encode_X5_add : GoodIn wsX2_encode wsX5_add := goodIn_r _ [5, 6, 7, 36, 37] rfl (by decide +kernel)
set_option maxRecDepth 20000 in
theorem gX2_encode_X5_add : GoodIn wsX2_encode (wsV RX2 59 RX5 yX5_add wsX5_add) := goodIn_app (goodIn_r _ [1, 2, 3, 4] rfl (by decide +kernel)) ggX2_encode_X5_add
theorem dX2_encode_41 : decode cX2_encode 41 = .ok (.invokevirtual 59, 3) := by decide +kernel
theorem dX2_encode_44 : decode cX2_encode 44 = .ok (.ifCond .eq 7, 3) := by decide +kernel
theorem dX2_encode_47 : decode cX2_encode 47 = .ok (.iconst 1, 1) := by decide +kernel
theorem dX2_encode_48 : decode cX2_encode 48 = .ok (.goto 4, 3) := by decide +kernel
theorem dX2_encode_53 : decode cX2_encode 53 = .ok (.iload_n 2, 1) := by decide +kernel
theorem dX2_encode_54 : decode cX2_encode 54 = .ok (.sipush 256, 3) := by decide +kernel
theorem dX2_encode_57 : decode cX2_encode 57 = .ok (.if_icmp .ge 15, 3) := by decide +kernel
theorem dX2_encode_72 : decode cX2_encode 72 = .ok (.iconst 0, 1) := by decide +kernel
theorem dX2_encode_73 : decode cX2_encode 73 = .ok (.ireturn, 1) := by decide +kernel
theorem dX2_encode_60 : decode cX2_encode 60 = .ok (.aload_n 3, 1) := by decide +kernel
theorem dX2_encode_61 : decode cX2_encode 61 = .ok (.iload_n 2, 1) := by decide +kernel
theorem dX2_encode_62 : decode cX2_encode 62 = .ok (.invokevirtual 59, 3) := by decide +kernel
theorem dX2_encode_65 : decode cX2_encode 65 = .ok (.ifCond .eq 7, 3) := by decide +kernel
theorem dX2_encode_68 : decode cX2_encode 68 = .ok (.iconst 1, 1) := by decide +kernel
theorem dX2_encode_69 : decode cX2_encode 69 = .ok (.goto 4, 3) := by decide +kernel
theorem dX2_encode_74 : decode cX2_encode 74 = .ok (.iload_n 2, 1) := by decide +kernel
theorem dX2_encode_75 : decode cX2_encode 75 = .ok (.aload_n 3, 1) := by decide +kernel
set_option maxRecDepth 20000 in
theorem ggX2_encode_X2_encodeMany : GoodIn wsX2_encode wsX2_encodeMany := goodIn_r _ [11, 1, 2, 3, 4, 5, 6, 7, 36, 37] rfl (by decide +kernel)
set_option maxRecDepth 20000 in
theorem gX2_encode_X2_encodeMany : GoodIn wsX2_encode (va_wsS RX2 62 yX2_encodeMany wsX2_encodeMany) := goodIn_app (goodIn_r _ [8, 9, 10] rfl (by decide +kernel)) ggX2_encode_X2_encodeMany
theorem dX2_encode_76 : decode cX2_encode 76 = .ok (.invokestatic 62, 3) := by decide +kernel
theorem dX2_encode_79 : decode cX2_encode 79 = .ok (.ireturn, 1) := by decide +kernel
theorem dX2_encode_80 : decode cX2_encode 80 = .ok (.iload_n 2, 1) := by decide +kernel
set_option maxRecDepth 20000 in
theorem ggX2_encode_X2_isNumbered : GoodIn wsX2_encode wsX2_isNumbered := goodIn_r _ [14] rfl (by decide +kernel)
set_option maxRecDepth 20000 in
theorem gX2_encode_X2_isNumbered : GoodIn wsX2_encode (va_wsS RX2 56 yX2_isNumbered wsX2_isNumbered) := goodIn_app (goodIn_r _ [12, 13, 10] rfl (by decide +kernel)) ggX2_encode_X2_isNumbered
theorem dX2_encode_81 : decode cX2_encode 81 = .ok (.invokestatic 56, 3) := by decide +kernel
theorem dX2_encode_84 : decode cX2_encode 84 = .ok (.ifCond .eq 11, 3) := by decide +kernel
theorem dX2_encode_95 : decode cX2_encode 95 = .ok (.aload_n 3, 1) := by decide +kernel
theorem dX2_encode_96 : decode cX2_encode 96 = .ok (.iload_n 2, 1) := by decide +kernel
theorem dX2_encode_97 : decode cX2_encode 97 = .ok (.invokevirtual 59, 3) := by decide +kernel
theorem dX2_encode_100 : decode cX2_encode 100 = .ok (.ireturn, 1) := by decide +kernel
theorem dX2_encode_87 : decode cX2_encode 87 = .ok (.iload_n 2, 1) := by decide +kernel
theorem dX2_encode_88 : decode cX2_encode 88 = .ok (.aload_n 3, 1) := by decide +kernel
set_option maxRecDepth 20000 in
theorem ggX2_encode_X2_encodeNumber : GoodIn wsX2_encode wsX2_encodeNumber := goodIn_r _ [17, 1, 2, 3, 4, 5, 6, 7, 36, 37] rfl (by decide +kernel)
set_option maxRecDepth 20000 in
theorem gX2_encode_X2_encodeNumber : GoodIn wsX2_encode (va_wsS RX2 66 yX2_encodeNumber wsX2_encodeNumber) := goodIn_app (goodIn_r _ [15, 16, 10] rfl (by decide +kernel)) ggX2_encode_X2_encodeNumber
theorem dX2_encode_89 : decode cX2_encode 89 = .ok (.invokestatic 66, 3) := by decide +kernel
theorem dX2_encode_92 : decode cX2_encode 92 = .ok (.goto 8, 3) := by decide +kernel
theorem dX2_encode_101 : decode cX2_encode 101 = .ok (.aload_n 0, 1) := by decide +kernel
theorem dX2_encode_102 : decode cX2_encode 102 = .ok (.iload_n 1, 1) := by decide +kernel
set_option maxRecDepth 20000 in
theorem ggX2_encode_X2_toldCode : GoodIn wsX2_encode wsX2_toldCode := goodIn_r _ [21, 22, 23, 38, 39] rfl (by decide +kernel)
set_option maxRecDepth 20000 in
theorem gX2_encode_X2_toldCode : GoodIn wsX2_encode (wsV RX2 21 RX2 yX2_toldCode wsX2_toldCode) := goodIn_app (goodIn_r _ [18, 19, 20, 10] rfl (by decide +kernel)) ggX2_encode_X2_toldCode
theorem dX2_encode_103 : decode cX2_encode 103 = .ok (.invokevirtual 21, 3) := by decide +kernel
theorem dX2_encode_106 : decode cX2_encode 106 = .ok (.astore 4, 2) := by decide +kernel
theorem dX2_encode_108 : decode cX2_encode 108 = .ok (.aload 4, 2) := by decide +kernel
theorem dX2_encode_110 : decode cX2_encode 110 = .ok (.ifnonnull 7, 3) := by decide +kernel
theorem dX2_encode_117 : decode cX2_encode 117 = .ok (.aload 4, 2) := by decide +kernel
theorem dX2_encode_119 : decode cX2_encode 119 = .ok (.iload_n 2, 1) := by decide +kernel
set_option maxRecDepth 20000 in
theorem ggX2_encode_X10_byteFor : GoodIn wsX2_encode wsX10_byteFor := goodIn_r _ [28, 29, 30, 31, 32, 27, 33, 34, 35, 40, 41, 42, 43] rfl (by decide +kernel)
set_option maxRecDepth 20000 in
theorem gX2_encode_X10_byteFor : GoodIn wsX2_encode (wsV RX2 69 RX10 yX10_byteFor wsX10_byteFor) := goodIn_app (goodIn_r _ [24, 25, 26, 27] rfl (by decide +kernel)) ggX2_encode_X10_byteFor
theorem dX2_encode_120 : decode cX2_encode 120 = .ok (.invokevirtual 69, 3) := by decide +kernel
theorem dX2_encode_123 : decode cX2_encode 123 = .ok (.istore 5, 2) := by decide +kernel
theorem dX2_encode_125 : decode cX2_encode 125 = .ok (.iload 5, 2) := by decide +kernel
theorem dX2_encode_127 : decode cX2_encode 127 = .ok (.iconst (-1), 1) := by decide +kernel
theorem dX2_encode_128 : decode cX2_encode 128 = .ok (.if_icmp .eq 16, 3) := by decide +kernel
theorem dX2_encode_144 : decode cX2_encode 144 = .ok (.iconst 0, 1) := by decide +kernel
theorem dX2_encode_145 : decode cX2_encode 145 = .ok (.ireturn, 1) := by decide +kernel
theorem dX2_encode_131 : decode cX2_encode 131 = .ok (.aload_n 3, 1) := by decide +kernel
theorem dX2_encode_132 : decode cX2_encode 132 = .ok (.iload 5, 2) := by decide +kernel
theorem dX2_encode_134 : decode cX2_encode 134 = .ok (.invokevirtual 59, 3) := by decide +kernel
theorem dX2_encode_137 : decode cX2_encode 137 = .ok (.ifCond .eq 7, 3) := by decide +kernel
theorem dX2_encode_140 : decode cX2_encode 140 = .ok (.iconst 1, 1) := by decide +kernel
theorem dX2_encode_141 : decode cX2_encode 141 = .ok (.goto 4, 3) := by decide +kernel
theorem dX2_encode_113 : decode cX2_encode 113 = .ok (.iconst (-1), 1) := by decide +kernel
theorem dX2_encode_114 : decode cX2_encode 114 = .ok (.goto 9, 3) := by decide +kernel
theorem dX2_isWritten_0 : decode cX2_isWritten 0 = .ok (.iload_n 1, 1) := by decide +kernel
theorem dX2_isWritten_1 : decode cX2_isWritten 1 = .ok (.lookupswitch 67 #[(2, 27), (3, 54)], 27) := by decide +kernel
theorem dX2_isWritten_28 : decode cX2_isWritten 28 = .ok (.iload_n 2, 1) := by decide +kernel
theorem dX2_isWritten_29 : decode cX2_isWritten 29 = .ok (.sipush 192, 3) := by decide +kernel
theorem dX2_isWritten_32 : decode cX2_isWritten 32 = .ok (.if_icmp .lt 17, 3) := by decide +kernel
theorem dX2_isWritten_49 : decode cX2_isWritten 49 = .ok (.iconst 1, 1) := by decide +kernel
theorem dX2_isWritten_50 : decode cX2_isWritten 50 = .ok (.goto 4, 3) := by decide +kernel
theorem dX2_isWritten_54 : decode cX2_isWritten 54 = .ok (.ireturn, 1) := by decide +kernel
theorem dX2_isWritten_35 : decode cX2_isWritten 35 = .ok (.iload_n 2, 1) := by decide +kernel
theorem dX2_isWritten_36 : decode cX2_isWritten 36 = .ok (.sipush 193, 3) := by decide +kernel
theorem dX2_isWritten_39 : decode cX2_isWritten 39 = .ok (.if_icmp .le 14, 3) := by decide +kernel
theorem dX2_isWritten_53 : decode cX2_isWritten 53 = .ok (.iconst 0, 1) := by decide +kernel
theorem dX2_isWritten_42 : decode cX2_isWritten 42 = .ok (.iload_n 2, 1) := by decide +kernel
theorem dX2_isWritten_43 : decode cX2_isWritten 43 = .ok (.sipush 240, 3) := by decide +kernel
theorem dX2_isWritten_46 : decode cX2_isWritten 46 = .ok (.if_icmp .ge 7, 3) := by decide +kernel
theorem dX2_isWritten_55 : decode cX2_isWritten 55 = .ok (.iload_n 2, 1) := by decide +kernel
theorem dX2_isWritten_56 : decode cX2_isWritten 56 = .ok (.sipush 128, 3) := by decide +kernel
theorem dX2_isWritten_59 : decode cX2_isWritten 59 = .ok (.if_icmp .ge 7, 3) := by decide +kernel
theorem dX2_isWritten_66 : decode cX2_isWritten 66 = .ok (.iconst 0, 1) := by decide +kernel
theorem dX2_isWritten_67 : decode cX2_isWritten 67 = .ok (.ireturn, 1) := by decide +kernel
theorem dX2_isWritten_62 : decode cX2_isWritten 62 = .ok (.iconst 1, 1) := by decide +kernel
theorem dX2_isWritten_63 : decode cX2_isWritten 63 = .ok (.goto 4, 3) := by decide +kernel
theorem dX2_isWritten_68 : decode cX2_isWritten 68 = .ok (.aload_n 0, 1) := by decide +kernel
theorem dX2_isWritten_69 : decode cX2_isWritten 69 = .ok (.iload_n 1, 1) := by decide +kernel
theorem dX2_isWritten_70 : decode cX2_isWritten 70 = .ok (.iload_n 2, 1) := by decide +kernel
set_option maxRecDepth 20000 in
theorem ggX2_isWritten_X2_letterAlone : GoodIn wsX2_isWritten wsX2_letterAlone := goodIn_r _ [5, 6, 7, 8, 4, 9, 10, 11, 12, 13, 14, 15, 16, 17, 18, 19, 20, 21, 22, 23] rfl (by decide +kernel)
set_option maxRecDepth 20000 in
theorem gX2_isWritten_X2_letterAlone : GoodIn wsX2_isWritten (wsV RX2 38 RX2 yX2_letterAlone wsX2_letterAlone) := goodIn_app (goodIn_r _ [1, 2, 3, 4] rfl (by decide +kernel)) ggX2_isWritten_X2_letterAlone
theorem dX2_isWritten_71 : decode cX2_isWritten 71 = .ok (.invokevirtual 38, 3) := by decide +kernel
theorem dX2_isWritten_74 : decode cX2_isWritten 74 = .ok (.iconst (-1), 1) := by decide +kernel
theorem dX2_isWritten_75 : decode cX2_isWritten 75 = .ok (.if_icmp .eq 7, 3) := by decide +kernel
theorem dX2_isWritten_82 : decode cX2_isWritten 82 = .ok (.iconst 0, 1) := by decide +kernel
theorem dX2_isWritten_83 : decode cX2_isWritten 83 = .ok (.ireturn, 1) := by decide +kernel
theorem dX2_isWritten_78 : decode cX2_isWritten 78 = .ok (.iconst 1, 1) := by decide +kernel
theorem dX2_isWritten_79 : decode cX2_isWritten 79 = .ok (.goto 4, 3) := by decide +kernel
theorem dX2_neverLost_0 : decode cX2_neverLost 0 = .ok (.iload_n 1, 1) := by decide +kernel
theorem dX2_neverLost_1 : decode cX2_neverLost 1 = .ok (.iload_n 2, 1) := by decide +kernel
theorem dX2_neverLost_2 : decode cX2_neverLost 2 = .ok (.if_icmp .ne 5, 3) := by decide +kernel
theorem dX2_neverLost_7 : decode cX2_neverLost 7 = .ok (.iconst 0, 1) := by decide +kernel
theorem dX2_neverLost_8 : decode cX2_neverLost 8 = .ok (.istore_n 3, 1) := by decide +kernel
theorem dX2_neverLost_9 : decode cX2_neverLost 9 = .ok (.iload_n 3, 1) := by decide +kernel
theorem dX2_neverLost_10 : decode cX2_neverLost 10 = .ok (.sipush 256, 3) := by decide +kernel
theorem dX2_neverLost_13 : decode cX2_neverLost 13 = .ok (.if_icmp .ge 30, 3) := by decide +kernel
theorem dX2_neverLost_43 : decode cX2_neverLost 43 = .ok (.iconst 1, 1) := by decide +kernel
theorem dX2_neverLost_44 : decode cX2_neverLost 44 = .ok (.ireturn, 1) := by decide +kernel
theorem dX2_neverLost_16 : decode cX2_neverLost 16 = .ok (.aload_n 0, 1) := by decide +kernel
theorem dX2_neverLost_17 : decode cX2_neverLost 17 = .ok (.iload_n 1, 1) := by decide +kernel
theorem dX2_neverLost_18 : decode cX2_neverLost 18 = .ok (.iload_n 3, 1) := by decide +kernel
set_option maxRecDepth 20000 in
theorem ggX2_neverLost_X2_isWritten : GoodIn wsX2_neverLost wsX2_isWritten := goodIn_r _ [5, 6, 7, 8, 4, 9, 10, 11, 12, 13, 14, 15, 16, 17, 18, 19, 20, 21, 22, 23, 24, 25, 26, 27] rfl (by decide +kernel)
set_option maxRecDepth 20000 in
theorem gX2_neverLost_X2_isWritten : GoodIn wsX2_neverLost (wsV RX2 72 RX2 yX2_isWritten wsX2_isWritten) := goodIn_app (goodIn_r _ [1, 2, 3, 4] rfl (by decide +kernel)) ggX2_neverLost_X2_isWritten
theorem dX2_neverLost_19 : decode cX2_neverLost 19 = .ok (.invokevirtual 72, 3) := by decide +kernel
theorem dX2_neverLost_22 : decode cX2_neverLost 22 = .ok (.ifCond .eq 15, 3) := by decide +kernel
theorem dX2_neverLost_37 : decode cX2_neverLost 37 = .ok (.iinc 3 1, 3) := by decide +kernel
theorem dX2_neverLost_40 : decode cX2_neverLost 40 = .ok (.goto (-31), 3) := by decide +kernel
theorem dX2_neverLost_25 : decode cX2_neverLost 25 = .ok (.aload_n 0, 1) := by decide +kernel
theorem dX2_neverLost_26 : decode cX2_neverLost 26 = .ok (.iload_n 2, 1) := by decide +kernel
theorem dX2_neverLost_27 : decode cX2_neverLost 27 = .ok (.iload_n 3, 1) := by decide +kernel
set_option maxRecDepth 20000 in
theorem ggX2_neverLost_X2_letterAlone : GoodIn wsX2_neverLost wsX2_letterAlone := goodIn_r _ [9, 10, 11, 12, 4, 13, 14, 15, 16, 17, 18, 19, 20, 21, 22, 23, 24, 25, 26, 27] rfl (by decide +kernel)
set_option maxRecDepth 20000 in
theorem gX2_neverLost_X2_letterAlone : GoodIn wsX2_neverLost (wsV RX2 38 RX2 yX2_letterAlone wsX2_letterAlone) := goodIn_app (goodIn_r _ [6, 7, 8, 4] rfl (by decide +kernel)) ggX2_neverLost_X2_letterAlone
theorem dX2_neverLost_28 : decode cX2_neverLost 28 = .ok (.invokevirtual 38, 3) := by decide +kernel
theorem dX2_neverLost_31 : decode cX2_neverLost 31 = .ok (.iconst (-1), 1) := by decide +kernel
theorem dX2_neverLost_32 : decode cX2_neverLost 32 = .ok (.if_icmp .ne 5, 3) := by decide +kernel
theorem dX2_neverLost_35 : decode cX2_neverLost 35 = .ok (.iconst 0, 1) := by decide +kernel
theorem dX2_neverLost_36 : decode cX2_neverLost 36 = .ok (.ireturn, 1) := by decide +kernel
theorem dX2_neverLost_5 : decode cX2_neverLost 5 = .ok (.iconst 1, 1) := by decide +kernel
theorem dX2_neverLost_6 : decode cX2_neverLost 6 = .ok (.ireturn, 1) := by decide +kernel
