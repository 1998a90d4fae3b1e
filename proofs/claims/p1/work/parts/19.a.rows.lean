theorem dX11_size_0 : decode cX11_size 0 = .ok (.aload_n 0, 1) := by decide +kernel
theorem dX11_size_1 : decode cX11_size 1 = .ok (.iload_n 1, 1) := by decide +kernel
set_option maxRecDepth 20000 in
theorem ggX11_size_X11_writes : GoodIn wsX11_size wsX11_writes := goodIn_r _ [6, 7, 1, 8, 9, 10, 11, 12, 13, 14, 15, 16, 17, 18, 19, 20, 21, 22, 23, 24, 25, 26, 27, 28, 29, 30, 31, 32, 33, 34, 35, 36, 37, 38, 39, 40, 41, 42, 43, 44, 45, 46, 47, 48, 49, 50, 51, 52, 53, 54, 55, 56, 57, 58, 59, 60, 61, 62, 63, 64, 65, 66, 67, 68, 69, 70, 71, 72, 73, 74, 80, 81, 82, 83, 84, 85, 86, 87, 88, 89, 90, 91, 92, 93, 94, 95, 96, 97, 98, 99, 100, 101, 102] rfl (by decide +kernel)
set_option maxRecDepth 20000 in
theorem gX11_size_X11_writes : GoodIn wsX11_size (wsV RX11 170 RX11 yX11_writes wsX11_writes) := goodIn_app (goodIn_r _ [2, 3, 4, 5] rfl (by decide +kernel)) ggX11_size_X11_writes
theorem dX11_size_2 : decode cX11_size 2 = .ok (.invokevirtual 170, 3) := by decide +kernel
theorem dX11_size_5 : decode cX11_size 5 = .ok (.ifCond .eq 16, 3) := by decide +kernel
theorem dX11_size_21 : decode cX11_size 21 = .ok (.iconst (-1), 1) := by decide +kernel
theorem dX11_size_22 : decode cX11_size 22 = .ok (.ireturn, 1) := by decide +kernel
theorem dX11_size_8 : decode cX11_size 8 = .ok (.aload_n 0, 1) := by decide +kernel
theorem dX11_size_9 : decode cX11_size 9 = .ok (.getfield 44, 3) := by decide +kernel
set_option maxRecDepth 20000 in
theorem ggX11_size_X7_bytes : GoodIn wsX11_size wsX7_bytes := goodIn_r _ [78, 19, 92, 93, 94] rfl (by decide +kernel)
set_option maxRecDepth 20000 in
theorem gX11_size_X7_bytes : GoodIn wsX11_size (wsV RX11 173 RX7 yX7_bytes wsX7_bytes) := goodIn_app (goodIn_r _ [75, 76, 77, 16] rfl (by decide +kernel)) ggX11_size_X7_bytes
theorem dX11_size_12 : decode cX11_size 12 = .ok (.invokevirtual 173, 3) := by decide +kernel
set_option maxRecDepth 20000 in
theorem ggX11_size_X5_length : GoodIn wsX11_size wsX5_length := goodIn_r _ [30, 26, 95, 96] rfl (by decide +kernel)
set_option maxRecDepth 20000 in
theorem gX11_size_X5_length : GoodIn wsX11_size (wsV RX11 94 RX5 yX5_length wsX5_length) := goodIn_app (goodIn_r _ [79, 28, 29, 24] rfl (by decide +kernel)) ggX11_size_X5_length
theorem dX11_size_15 : decode cX11_size 15 = .ok (.invokevirtual 94, 3) := by decide +kernel
theorem dX11_size_18 : decode cX11_size 18 = .ok (.goto 4, 3) := by decide +kernel
theorem dX11_byteOf_0 : decode cX11_byteOf 0 = .ok (.aload_n 0, 1) := by decide +kernel
theorem dX11_byteOf_1 : decode cX11_byteOf 1 = .ok (.iload_n 1, 1) := by decide +kernel
set_option maxRecDepth 20000 in
theorem ggX11_byteOf_X11_writes : GoodIn wsX11_byteOf wsX11_writes := goodIn_r _ [6, 7, 1, 8, 9, 10, 11, 12, 13, 14, 15, 16, 17, 18, 19, 20, 21, 22, 23, 24, 25, 26, 27, 28, 29, 30, 31, 32, 33, 34, 35, 36, 37, 38, 39, 40, 41, 42, 43, 44, 45, 46, 47, 48, 49, 50, 51, 52, 53, 54, 55, 56, 57, 58, 59, 60, 61, 62, 63, 64, 65, 66, 67, 68, 69, 70, 71, 72, 73, 74, 80, 81, 82, 83, 84, 85, 86, 87, 88, 89, 90, 91, 92, 93, 94, 95, 96, 97, 98, 99, 100, 101, 102] rfl (by decide +kernel)
set_option maxRecDepth 20000 in
theorem gX11_byteOf_X11_writes : GoodIn wsX11_byteOf (wsV RX11 170 RX11 yX11_writes wsX11_writes) := goodIn_app (goodIn_r _ [2, 3, 4, 5] rfl (by decide +kernel)) ggX11_byteOf_X11_writes
theorem dX11_byteOf_2 : decode cX11_byteOf 2 = .ok (.invokevirtual 170, 3) := by decide +kernel
theorem dX11_byteOf_5 : decode cX11_byteOf 5 = .ok (.ifCond .eq 17, 3) := by decide +kernel
theorem dX11_byteOf_22 : decode cX11_byteOf 22 = .ok (.iconst (-1), 1) := by decide +kernel
theorem dX11_byteOf_23 : decode cX11_byteOf 23 = .ok (.ireturn, 1) := by decide +kernel
theorem dX11_byteOf_8 : decode cX11_byteOf 8 = .ok (.aload_n 0, 1) := by decide +kernel
theorem dX11_byteOf_9 : decode cX11_byteOf 9 = .ok (.getfield 44, 3) := by decide +kernel
set_option maxRecDepth 20000 in
theorem ggX11_byteOf_X7_bytes : GoodIn wsX11_byteOf wsX7_bytes := goodIn_r _ [78, 19, 92, 93, 94] rfl (by decide +kernel)
set_option maxRecDepth 20000 in
theorem gX11_byteOf_X7_bytes : GoodIn wsX11_byteOf (wsV RX11 173 RX7 yX7_bytes wsX7_bytes) := goodIn_app (goodIn_r _ [75, 76, 77, 16] rfl (by decide +kernel)) ggX11_byteOf_X7_bytes
theorem dX11_byteOf_12 : decode cX11_byteOf 12 = .ok (.invokevirtual 173, 3) := by decide +kernel
theorem dX11_byteOf_15 : decode cX11_byteOf 15 = .ok (.iload_n 2, 1) := by decide +kernel
set_option maxRecDepth 20000 in
theorem ggX11_byteOf_X5_get : GoodIn wsX11_byteOf wsX5_get := goodIn_r _ [34, 26, 35, 95, 96] rfl (by decide +kernel)
set_option maxRecDepth 20000 in
theorem gX11_byteOf_X5_get : GoodIn wsX11_byteOf (wsV RX11 167 RX5 yX5_get wsX5_get) := goodIn_app (goodIn_r _ [79, 32, 33, 24] rfl (by decide +kernel)) ggX11_byteOf_X5_get
theorem dX11_byteOf_16 : decode cX11_byteOf 16 = .ok (.invokevirtual 167, 3) := by decide +kernel
theorem dX11_byteOf_19 : decode cX11_byteOf 19 = .ok (.goto 4, 3) := by decide +kernel
theorem dX11_where_0 : decode cX11_where 0 = .ok (.aload_n 0, 1) := by decide +kernel
theorem dX11_where_1 : decode cX11_where 1 = .ok (.getfield 90, 3) := by decide +kernel
theorem dX11_where_4 : decode cX11_where 4 = .ok (.ireturn, 1) := by decide +kernel
theorem dX11_harm_0 : decode cX11_harm 0 = .ok (.aload_n 0, 1) := by decide +kernel
theorem dX11_harm_1 : decode cX11_harm 1 = .ok (.iload_n 1, 1) := by decide +kernel
theorem dX11_harm_2 : decode cX11_harm 2 = .ok (.iload_n 2, 1) := by decide +kernel
set_option maxRecDepth 20000 in
theorem ggX11_harm_X11_passes : GoodIn wsX11_harm wsX11_passes := goodIn_r _ [6, 7, 8, 9, 1, 10, 11, 12, 13, 14, 15, 16, 17, 18, 19, 20, 21, 22, 23, 24, 25, 26, 27, 28, 29, 30, 31, 32, 33, 34, 35, 36, 37, 38, 39, 40, 41, 42, 43, 44, 45, 46, 47, 48, 49, 50, 51, 52, 53, 54, 55, 56, 57, 58, 59, 60, 61, 62, 63, 64, 65, 66, 67, 68, 69, 70, 71, 72, 73, 74, 75, 76, 77, 78, 79, 80, 81, 82, 83, 84, 85, 86, 87, 88, 89, 90, 91, 92, 93, 94, 95, 96, 97, 98, 99, 100, 101, 102, 103, 104, 5, 105, 106, 107, 108, 109, 110, 111, 112, 113, 114, 115, 116, 117, 118, 119, 120, 121, 122, 162, 163, 164, 165, 166, 167, 168, 169, 170, 171, 172, 173, 174, 175, 176, 177, 178, 179, 180, 181, 182, 183, 184] rfl (by decide +kernel)
set_option maxRecDepth 20000 in
theorem gX11_harm_X11_passes : GoodIn wsX11_harm (wsV RX11 177 RX11 yX11_passes wsX11_passes) := goodIn_app (goodIn_r _ [2, 3, 4, 5] rfl (by decide +kernel)) ggX11_harm_X11_passes
theorem dX11_harm_3 : decode cX11_harm 3 = .ok (.invokevirtual 177, 3) := by decide +kernel
theorem dX11_harm_6 : decode cX11_harm 6 = .ok (.ifCond .eq 14, 3) := by decide +kernel
theorem dX11_harm_20 : decode cX11_harm 20 = .ok (.iconst (-1), 1) := by decide +kernel
theorem dX11_harm_21 : decode cX11_harm 21 = .ok (.ireturn, 1) := by decide +kernel
theorem dX11_harm_9 : decode cX11_harm 9 = .ok (.aload_n 0, 1) := by decide +kernel
theorem dX11_harm_10 : decode cX11_harm 10 = .ok (.aload_n 0, 1) := by decide +kernel
theorem dX11_harm_11 : decode cX11_harm 11 = .ok (.getfield 37, 3) := by decide +kernel
set_option maxRecDepth 20000 in
theorem ggX11_harm_X11_become : GoodIn wsX11_harm wsX11_become := goodIn_r _ [126, 127, 9, 128, 129, 130, 131, 132, 133, 134, 135, 82, 136, 137, 138, 139, 140, 141, 33, 34, 29, 35, 31, 142, 37, 38, 39, 40, 143, 144, 145, 146, 147, 148, 149, 150, 151, 152, 153, 154, 155, 156, 157, 158, 159, 160, 161, 162, 163, 164, 165, 166, 167, 168, 169, 170, 171, 172, 173, 185, 186, 187, 188, 177, 178, 189, 190, 191, 192, 193, 194, 195, 196, 197, 198, 199, 200, 201, 202, 203, 204, 205, 206, 207, 208] rfl (by decide +kernel)
set_option maxRecDepth 20000 in
theorem gX11_harm_X11_become : GoodIn wsX11_harm (wsV RX11 113 RX11 yX11_become wsX11_become) := goodIn_app (goodIn_r _ [123, 124, 125, 5] rfl (by decide +kernel)) ggX11_harm_X11_become
theorem dX11_harm_14 : decode cX11_harm 14 = .ok (.invokevirtual 113, 3) := by decide +kernel
theorem dX11_harm_17 : decode cX11_harm 17 = .ok (.goto 4, 3) := by decide +kernel
theorem dX11_rough_0 : decode cX11_rough 0 = .ok (.aload_n 0, 1) := by decide +kernel
theorem dX11_rough_1 : decode cX11_rough 1 = .ok (.iconst (-1), 1) := by decide +kernel
theorem dX11_rough_2 : decode cX11_rough 2 = .ok (.putfield 90, 3) := by decide +kernel
theorem dX11_rough_5 : decode cX11_rough 5 = .ok (.iload_n 1, 1) := by decide +kernel
set_option maxRecDepth 20000 in
theorem ggX11_rough_X2_known : GoodIn wsX11_rough wsX2_known := goodIn_r _ [8] rfl (by decide +kernel)
set_option maxRecDepth 20000 in
theorem gX11_rough_X2_known : GoodIn wsX11_rough (va_wsS RX11 117 yX2_known wsX2_known) := goodIn_app (goodIn_r _ [5, 6, 7] rfl (by decide +kernel)) ggX11_rough_X2_known
theorem dX11_rough_6 : decode cX11_rough 6 = .ok (.invokestatic 117, 3) := by decide +kernel
theorem dX11_rough_9 : decode cX11_rough 9 = .ok (.ifCond .eq 10, 3) := by decide +kernel
theorem dX11_rough_19 : decode cX11_rough 19 = .ok (.iconst (-1), 1) := by decide +kernel
theorem dX11_rough_20 : decode cX11_rough 20 = .ok (.ireturn, 1) := by decide +kernel
theorem dX11_rough_12 : decode cX11_rough 12 = .ok (.iload_n 2, 1) := by decide +kernel
theorem dX11_rough_13 : decode cX11_rough 13 = .ok (.invokestatic 117, 3) := by decide +kernel
theorem dX11_rough_16 : decode cX11_rough 16 = .ok (.ifCond .ne 5, 3) := by decide +kernel
theorem dX11_rough_21 : decode cX11_rough 21 = .ok (.aload_n 0, 1) := by decide +kernel
theorem dX11_rough_22 : decode cX11_rough 22 = .ok (.getfield 44, 3) := by decide +kernel
theorem dX11_rough_25 : decode cX11_rough 25 = .ok (.iload_n 1, 1) := by decide +kernel
theorem dX11_rough_26 : decode cX11_rough 26 = .ok (.iload_n 2, 1) := by decide +kernel
theorem dX11_rough_27 : decode cX11_rough 27 = .ok (.aload_n 0, 1) := by decide +kernel
theorem dX11_rough_28 : decode cX11_rough 28 = .ok (.getfield 34, 3) := by decide +kernel
theorem dX11_rough_31 : decode cX11_rough 31 = .ok (.aload_n 0, 1) := by decide +kernel
theorem dX11_rough_32 : decode cX11_rough 32 = .ok (.getfield 37, 3) := by decide +kernel
set_option maxRecDepth 20000 in
theorem ggX11_rough_X7_passRoughly : GoodIn wsX11_rough wsX7_passRoughly := goodIn_r _ [13, 14, 15, 16, 17, 18, 19, 20, 21, 22, 23, 12, 24, 25, 26, 27, 28, 29, 30, 31, 32, 33, 34, 35, 36, 37, 38, 39, 40, 41, 42, 43, 7, 44, 45, 46, 47, 48, 49, 50, 51, 52, 53, 54, 55, 56, 57, 58, 59, 60, 61, 62, 63, 64, 65, 66, 67, 68, 69, 70, 71, 72, 73, 74, 75, 76, 77, 78, 79, 80, 81, 82, 83, 84, 85, 86, 87, 88, 89, 90, 91, 92, 93, 94, 95, 96, 97, 98, 99, 100, 101, 102, 103, 104, 105, 106, 107, 108, 109, 110, 111, 167, 168, 169, 170, 171, 172, 173, 174, 175, 176, 177] rfl (by decide +kernel)
set_option maxRecDepth 20000 in
theorem gX11_rough_X7_passRoughly : GoodIn wsX11_rough (wsV RX11 181 RX7 yX7_passRoughly wsX7_passRoughly) := goodIn_app (goodIn_r _ [9, 10, 11, 12] rfl (by decide +kernel)) ggX11_rough_X7_passRoughly
theorem dX11_rough_35 : decode cX11_rough 35 = .ok (.invokevirtual 181, 3) := by decide +kernel
theorem dX11_rough_38 : decode cX11_rough 38 = .ok (.istore_n 3, 1) := by decide +kernel
theorem dX11_rough_39 : decode cX11_rough 39 = .ok (.aload_n 0, 1) := by decide +kernel
theorem dX11_rough_40 : decode cX11_rough 40 = .ok (.aload_n 0, 1) := by decide +kernel
theorem dX11_rough_41 : decode cX11_rough 41 = .ok (.getfield 44, 3) := by decide +kernel
set_option maxRecDepth 20000 in
theorem ggX11_rough_X7_fault : GoodIn wsX11_rough wsX7_fault := goodIn_r _ [115, 25, 167, 168, 169] rfl (by decide +kernel)
set_option maxRecDepth 20000 in
theorem gX11_rough_X7_fault : GoodIn wsX11_rough (wsV RX11 127 RX7 yX7_fault wsX7_fault) := goodIn_app (goodIn_r _ [112, 113, 114, 12] rfl (by decide +kernel)) ggX11_rough_X7_fault
theorem dX11_rough_44 : decode cX11_rough 44 = .ok (.invokevirtual 127, 3) := by decide +kernel
theorem dX11_rough_47 : decode cX11_rough 47 = .ok (.putfield 90, 3) := by decide +kernel
theorem dX11_rough_50 : decode cX11_rough 50 = .ok (.iload_n 3, 1) := by decide +kernel
theorem dX11_rough_51 : decode cX11_rough 51 = .ok (.iconst (-1), 1) := by decide +kernel
theorem dX11_rough_52 : decode cX11_rough 52 = .ok (.if_icmp .ne 5, 3) := by decide +kernel
theorem dX11_rough_57 : decode cX11_rough 57 = .ok (.aload_n 0, 1) := by decide +kernel
theorem dX11_rough_58 : decode cX11_rough 58 = .ok (.aload_n 0, 1) := by decide +kernel
theorem dX11_rough_59 : decode cX11_rough 59 = .ok (.getfield 37, 3) := by decide +kernel
set_option maxRecDepth 20000 in
theorem ggX11_rough_X11_become : GoodIn wsX11_rough wsX11_become := goodIn_r _ [119, 120, 3, 121, 122, 123, 124, 125, 126, 127, 128, 19, 129, 130, 131, 132, 133, 134, 33, 34, 29, 35, 31, 135, 37, 38, 39, 40, 136, 137, 138, 139, 140, 141, 142, 143, 144, 145, 146, 147, 148, 149, 150, 151, 152, 153, 154, 155, 156, 157, 158, 159, 160, 161, 162, 163, 164, 165, 166, 178, 179, 180, 181, 170, 171, 182, 183, 184, 185, 186, 187, 188, 189, 190, 191, 192, 193, 194, 195, 196, 197, 198, 199, 200, 201] rfl (by decide +kernel)
set_option maxRecDepth 20000 in
theorem gX11_rough_X11_become : GoodIn wsX11_rough (wsV RX11 113 RX11 yX11_become wsX11_become) := goodIn_app (goodIn_r _ [116, 117, 118, 97] rfl (by decide +kernel)) ggX11_rough_X11_become
theorem dX11_rough_62 : decode cX11_rough 62 = .ok (.invokevirtual 113, 3) := by decide +kernel
theorem dX11_rough_65 : decode cX11_rough 65 = .ok (.pop, 1) := by decide +kernel
theorem dX11_rough_66 : decode cX11_rough 66 = .ok (.iload_n 3, 1) := by decide +kernel
theorem dX11_rough_67 : decode cX11_rough 67 = .ok (.ireturn, 1) := by decide +kernel
theorem dX11_undo_0 : decode cX11_undo 0 = .ok (.aload_n 0, 1) := by decide +kernel
theorem dX11_undo_1 : decode cX11_undo 1 = .ok (.iload_n 2, 1) := by decide +kernel
theorem dX11_undo_2 : decode cX11_undo 2 = .ok (.iload_n 1, 1) := by decide +kernel
set_option maxRecDepth 20000 in
theorem ggX11_undo_X11_passes : GoodIn wsX11_undo wsX11_passes := goodIn_r _ [6, 7, 8, 9, 1, 10, 11, 12, 13, 14, 15, 16, 17, 18, 19, 20, 21, 22, 23, 24, 25, 26, 27, 28, 29, 30, 31, 32, 33, 34, 35, 36, 37, 38, 39, 40, 41, 42, 43, 44, 45, 46, 47, 48, 49, 50, 51, 52, 53, 54, 55, 56, 57, 58, 59, 60, 61, 62, 63, 64, 65, 66, 67, 68, 69, 70, 71, 72, 73, 74, 75, 76, 77, 78, 79, 80, 81, 82, 83, 84, 85, 86, 87, 88, 89, 90, 91, 92, 93, 94, 95, 96, 97, 98, 99, 100, 101, 102, 103, 104, 5, 105, 106, 107, 108, 109, 110, 111, 112, 113, 114, 115, 116, 117, 118, 119, 120, 121, 122, 162, 163, 164, 165, 166, 167, 168, 169, 170, 171, 172, 173, 174, 175, 176, 177, 178, 179, 180, 181, 182, 183, 184] rfl (by decide +kernel)
set_option maxRecDepth 20000 in
theorem gX11_undo_X11_passes : GoodIn wsX11_undo (wsV RX11 177 RX11 yX11_passes wsX11_passes) := goodIn_app (goodIn_r _ [2, 3, 4, 5] rfl (by decide +kernel)) ggX11_undo_X11_passes
theorem dX11_undo_3 : decode cX11_undo 3 = .ok (.invokevirtual 177, 3) := by decide +kernel
theorem dX11_undo_6 : decode cX11_undo 6 = .ok (.ifCond .eq 14, 3) := by decide +kernel
theorem dX11_undo_20 : decode cX11_undo 20 = .ok (.iconst (-1), 1) := by decide +kernel
theorem dX11_undo_21 : decode cX11_undo 21 = .ok (.ireturn, 1) := by decide +kernel
theorem dX11_undo_9 : decode cX11_undo 9 = .ok (.aload_n 0, 1) := by decide +kernel
theorem dX11_undo_10 : decode cX11_undo 10 = .ok (.aload_n 0, 1) := by decide +kernel
theorem dX11_undo_11 : decode cX11_undo 11 = .ok (.getfield 37, 3) := by decide +kernel
set_option maxRecDepth 20000 in
theorem ggX11_undo_X11_become : GoodIn wsX11_undo wsX11_become := goodIn_r _ [126, 127, 9, 128, 129, 130, 131, 132, 133, 134, 135, 82, 136, 137, 138, 139, 140, 141, 33, 34, 29, 35, 31, 142, 37, 38, 39, 40, 143, 144, 145, 146, 147, 148, 149, 150, 151, 152, 153, 154, 155, 156, 157, 158, 159, 160, 161, 162, 163, 164, 165, 166, 167, 168, 169, 170, 171, 172, 173, 185, 186, 187, 188, 177, 178, 189, 190, 191, 192, 193, 194, 195, 196, 197, 198, 199, 200, 201, 202, 203, 204, 205, 206, 207, 208] rfl (by decide +kernel)
set_option maxRecDepth 20000 in
theorem gX11_undo_X11_become : GoodIn wsX11_undo (wsV RX11 113 RX11 yX11_become wsX11_become) := goodIn_app (goodIn_r _ [123, 124, 125, 5] rfl (by decide +kernel)) ggX11_undo_X11_become
theorem dX11_undo_14 : decode cX11_undo 14 = .ok (.invokevirtual 113, 3) := by decide +kernel
theorem dX11_undo_17 : decode cX11_undo 17 = .ok (.goto 4, 3) := by decide +kernel
theorem dX11_back_0 : decode cX11_back 0 = .ok (.aload_n 0, 1) := by decide +kernel
theorem dX11_back_1 : decode cX11_back 1 = .ok (.getfield 59, 3) := by decide +kernel
theorem dX11_back_4 : decode cX11_back 4 = .ok (.aload_n 0, 1) := by decide +kernel
theorem dX11_back_5 : decode cX11_back 5 = .ok (.getfield 34, 3) := by decide +kernel
set_option maxRecDepth 20000 in
theorem ggX11_back_X0_takeBack : GoodIn wsX11_back wsX0_takeBack := goodIn_r _ [8, 9, 10, 11, 12, 13, 14, 15, 16, 17, 18, 19, 20, 21, 22, 23, 46, 47, 48, 49, 50, 51] rfl (by decide +kernel)
set_option maxRecDepth 20000 in
theorem gX11_back_X0_takeBack : GoodIn wsX11_back (wsV RX11 188 RX0 yX0_takeBack wsX0_takeBack) := goodIn_app (goodIn_r _ [4, 5, 6, 7] rfl (by decide +kernel)) ggX11_back_X0_takeBack
theorem dX11_back_8 : decode cX11_back 8 = .ok (.invokevirtual 188, 3) := by decide +kernel
theorem dX11_back_11 : decode cX11_back 11 = .ok (.ifCond .ne 5, 3) := by decide +kernel
theorem dX11_back_14 : decode cX11_back 14 = .ok (.iconst (-1), 1) := by decide +kernel
theorem dX11_back_15 : decode cX11_back 15 = .ok (.ireturn, 1) := by decide +kernel
theorem dX11_list_0 : decode cX11_list 0 = .ok (.aload_n 0, 1) := by decide +kernel
theorem dX11_list_1 : decode cX11_list 1 = .ok (.iconst (-1), 1) := by decide +kernel
theorem dX11_list_2 : decode cX11_list 2 = .ok (.putfield 90, 3) := by decide +kernel
theorem dX11_list_5 : decode cX11_list 5 = .ok (.iload_n 1, 1) := by decide +kernel
set_option maxRecDepth 20000 in
theorem ggX11_list_X2_known : GoodIn wsX11_list wsX2_known := goodIn_r _ [7] rfl (by decide +kernel)
set_option maxRecDepth 20000 in
theorem gX11_list_X2_known : GoodIn wsX11_list (va_wsS RX11 117 yX2_known wsX2_known) := goodIn_app (goodIn_r _ [4, 5, 6] rfl (by decide +kernel)) ggX11_list_X2_known
theorem dX11_list_6 : decode cX11_list 6 = .ok (.invokestatic 117, 3) := by decide +kernel
theorem dX11_list_9 : decode cX11_list 9 = .ok (.ifCond .eq 22, 3) := by decide +kernel
theorem dX11_list_31 : decode cX11_list 31 = .ok (.iconst (-1), 1) := by decide +kernel
theorem dX11_list_32 : decode cX11_list 32 = .ok (.ireturn, 1) := by decide +kernel
theorem dX11_list_12 : decode cX11_list 12 = .ok (.iload_n 2, 1) := by decide +kernel
theorem dX11_list_13 : decode cX11_list 13 = .ok (.invokestatic 117, 3) := by decide +kernel
theorem dX11_list_16 : decode cX11_list 16 = .ok (.ifCond .eq 15, 3) := by decide +kernel
theorem dX11_list_19 : decode cX11_list 19 = .ok (.aload_n 0, 1) := by decide +kernel
theorem dX11_list_20 : decode cX11_list 20 = .ok (.getfield 48, 3) := by decide +kernel
theorem dX11_list_23 : decode cX11_list 23 = .ok (.iload_n 1, 1) := by decide +kernel
theorem dX11_list_24 : decode cX11_list 24 = .ok (.iload_n 2, 1) := by decide +kernel
set_option maxRecDepth 20000 in
theorem ggX11_list_X4_tell : GoodIn wsX11_list wsX4_tell := goodIn_r _ [12, 13, 14, 15, 38, 39, 40, 41] rfl (by decide +kernel)
set_option maxRecDepth 20000 in
theorem gX11_list_X4_tell : GoodIn wsX11_list (wsV RX11 191 RX4 yX4_tell wsX4_tell) := goodIn_app (goodIn_r _ [8, 9, 10, 11] rfl (by decide +kernel)) ggX11_list_X4_tell
theorem dX11_list_25 : decode cX11_list 25 = .ok (.invokevirtual 191, 3) := by decide +kernel
theorem dX11_list_28 : decode cX11_list 28 = .ok (.ifCond .ne 5, 3) := by decide +kernel
theorem dX11_list_33 : decode cX11_list 33 = .ok (.aload_n 0, 1) := by decide +kernel
theorem dX11_list_34 : decode cX11_list 34 = .ok (.getfield 86, 3) := by decide +kernel
set_option maxRecDepth 20000 in
theorem ggX11_list_X1_forgetFreshness : GoodIn wsX11_list wsX1_forgetFreshness := goodIn_r _ [20, 21, 42, 43, 44, 45, 46, 47, 48, 49, 50, 51, 52, 53, 54, 55, 56, 57, 58, 59, 60, 61] rfl (by decide +kernel)
set_option maxRecDepth 20000 in
theorem gX11_list_X1_forgetFreshness : GoodIn wsX11_list (wsV RX11 143 RX1 yX1_forgetFreshness wsX1_forgetFreshness) := goodIn_app (goodIn_r _ [16, 17, 18, 19] rfl (by decide +kernel)) ggX11_list_X1_forgetFreshness
theorem dX11_list_37 : decode cX11_list 37 = .ok (.invokevirtual 143, 3) := by decide +kernel
theorem dX11_list_40 : decode cX11_list 40 = .ok (.aload_n 0, 1) := by decide +kernel
theorem dX11_list_41 : decode cX11_list 41 = .ok (.getfield 48, 3) := by decide +kernel
set_option maxRecDepth 20000 in
theorem ggX11_list_X4_length : GoodIn wsX11_list wsX4_length := goodIn_r _ [25, 13, 38, 39, 40, 41] rfl (by decide +kernel)
set_option maxRecDepth 20000 in
theorem gX11_list_X4_length : GoodIn wsX11_list (wsV RX11 150 RX4 yX4_length wsX4_length) := goodIn_app (goodIn_r _ [22, 23, 24, 11] rfl (by decide +kernel)) ggX11_list_X4_length
theorem dX11_list_44 : decode cX11_list 44 = .ok (.invokevirtual 150, 3) := by decide +kernel
theorem dX11_list_47 : decode cX11_list 47 = .ok (.iconst 1, 1) := by decide +kernel
theorem dX11_list_48 : decode cX11_list 48 = .ok (.isub, 1) := by decide +kernel
theorem dX11_list_49 : decode cX11_list 49 = .ok (.ireturn, 1) := by decide +kernel
theorem dX11_unlist_0 : decode cX11_unlist 0 = .ok (.aload_n 0, 1) := by decide +kernel
theorem dX11_unlist_1 : decode cX11_unlist 1 = .ok (.getfield 48, 3) := by decide +kernel
set_option maxRecDepth 20000 in
theorem ggX11_unlist_X4_length : GoodIn wsX11_unlist wsX4_length := goodIn_r _ [7, 8, 31, 32, 33, 34] rfl (by decide +kernel)
set_option maxRecDepth 20000 in
theorem gX11_unlist_X4_length : GoodIn wsX11_unlist (wsV RX11 150 RX4 yX4_length wsX4_length) := goodIn_app (goodIn_r _ [3, 4, 5, 6] rfl (by decide +kernel)) ggX11_unlist_X4_length
theorem dX11_unlist_4 : decode cX11_unlist 4 = .ok (.invokevirtual 150, 3) := by decide +kernel
theorem dX11_unlist_7 : decode cX11_unlist 7 = .ok (.istore_n 1, 1) := by decide +kernel
theorem dX11_unlist_8 : decode cX11_unlist 8 = .ok (.aload_n 0, 1) := by decide +kernel
theorem dX11_unlist_9 : decode cX11_unlist 9 = .ok (.getfield 48, 3) := by decide +kernel
set_option maxRecDepth 20000 in
theorem ggX11_unlist_X4_empty : GoodIn wsX11_unlist wsX4_empty := goodIn_r _ [12, 8, 31, 32, 33, 34] rfl (by decide +kernel)
set_option maxRecDepth 20000 in
theorem gX11_unlist_X4_empty : GoodIn wsX11_unlist (wsV RX11 193 RX4 yX4_empty wsX4_empty) := goodIn_app (goodIn_r _ [9, 10, 11, 6] rfl (by decide +kernel)) ggX11_unlist_X4_empty
theorem dX11_unlist_12 : decode cX11_unlist 12 = .ok (.invokevirtual 193, 3) := by decide +kernel
theorem dX11_unlist_15 : decode cX11_unlist 15 = .ok (.aload_n 0, 1) := by decide +kernel
theorem dX11_unlist_16 : decode cX11_unlist 16 = .ok (.getfield 86, 3) := by decide +kernel
set_option maxRecDepth 20000 in
theorem ggX11_unlist_X1_forgetFreshness : GoodIn wsX11_unlist wsX1_forgetFreshness := goodIn_r _ [17, 18, 35, 36, 37, 38, 39, 40, 41, 42, 43, 44, 45, 46, 47, 48, 49, 50, 51, 52, 53, 54] rfl (by decide +kernel)
set_option maxRecDepth 20000 in
theorem gX11_unlist_X1_forgetFreshness : GoodIn wsX11_unlist (wsV RX11 143 RX1 yX1_forgetFreshness wsX1_forgetFreshness) := goodIn_app (goodIn_r _ [13, 14, 15, 16] rfl (by decide +kernel)) ggX11_unlist_X1_forgetFreshness
theorem dX11_unlist_19 : decode cX11_unlist 19 = .ok (.invokevirtual 143, 3) := by decide +kernel
theorem dX11_unlist_22 : decode cX11_unlist 22 = .ok (.iload_n 1, 1) := by decide +kernel
theorem dX11_unlist_23 : decode cX11_unlist 23 = .ok (.ireturn, 1) := by decide +kernel
theorem dX11_rows_0 : decode cX11_rows 0 = .ok (.aload_n 0, 1) := by decide +kernel
theorem dX11_rows_1 : decode cX11_rows 1 = .ok (.iconst (-1), 1) := by decide +kernel
theorem dX11_rows_2 : decode cX11_rows 2 = .ok (.putfield 90, 3) := by decide +kernel
theorem dX11_rows_5 : decode cX11_rows 5 = .ok (.iload_n 1, 1) := by decide +kernel
theorem dX11_rows_6 : decode cX11_rows 6 = .ok (.iconst 1, 1) := by decide +kernel
theorem dX11_rows_7 : decode cX11_rows 7 = .ok (.if_icmp .lt 8, 3) := by decide +kernel
theorem dX11_rows_15 : decode cX11_rows 15 = .ok (.iconst (-1), 1) := by decide +kernel
theorem dX11_rows_16 : decode cX11_rows 16 = .ok (.ireturn, 1) := by decide +kernel
theorem dX11_rows_10 : decode cX11_rows 10 = .ok (.iload_n 1, 1) := by decide +kernel
theorem dX11_rows_11 : decode cX11_rows 11 = .ok (.iconst 3, 1) := by decide +kernel
theorem dX11_rows_12 : decode cX11_rows 12 = .ok (.if_icmp .le 5, 3) := by decide +kernel
theorem dX11_rows_17 : decode cX11_rows 17 = .ok (.aload_n 0, 1) := by decide +kernel
theorem dX11_rows_18 : decode cX11_rows 18 = .ok (.getfield 68, 3) := by decide +kernel
theorem dX11_rows_21 : decode cX11_rows 21 = .ok (.iload_n 1, 1) := by decide +kernel
theorem dX11_rows_22 : decode cX11_rows 22 = .ok (.aload_n 0, 1) := by decide +kernel
theorem dX11_rows_23 : decode cX11_rows 23 = .ok (.getfield 34, 3) := by decide +kernel
set_option maxRecDepth 20000 in
theorem ggX11_rows_X9_find : GoodIn wsX11_rows wsX9_find := goodIn_r _ [8, 9, 10, 11, 12, 13, 14, 15, 16, 17, 18, 19, 20, 21, 22, 23, 24, 25, 26, 27, 28, 29, 30, 31, 32, 33, 34, 35, 36, 37, 38, 39, 40, 41, 42, 43, 44, 45, 46, 47, 48, 49, 50, 51, 52, 53, 54, 55, 56, 57, 58, 59, 60, 61, 62, 63, 64, 65, 66, 67, 68, 69, 70, 71, 72, 73, 74, 75, 76, 77, 78, 79, 80, 81, 82, 83, 84, 85, 86, 87, 88, 89, 90, 91, 92, 93, 94, 95, 96, 97, 98, 99, 100, 101, 102, 103, 104, 105, 106, 107, 108, 109, 110, 111, 112, 113, 114, 115, 116, 117, 118, 119, 120, 121, 122, 123, 124, 125, 126, 127, 128, 129, 130, 131, 132, 133, 134, 135, 136, 137, 138, 139, 140, 7, 141, 142, 143, 144, 145, 146, 147, 148, 149, 150, 151, 152, 153, 154, 155, 156, 157, 158, 159, 160, 161, 162, 163, 164, 165, 166, 167, 168, 169, 170, 171, 172, 173, 174, 175, 176, 177, 198, 199, 200, 201, 202, 203, 204, 205, 206, 207, 208, 209, 210, 211, 212, 213, 214, 215, 216, 217, 218, 219, 220, 221, 222, 223, 224, 225, 226, 227] rfl (by decide +kernel)
set_option maxRecDepth 20000 in
theorem gX11_rows_X9_find : GoodIn wsX11_rows (wsV RX11 194 RX9 yX9_find wsX9_find) := goodIn_app (goodIn_r _ [4, 5, 6, 7] rfl (by decide +kernel)) ggX11_rows_X9_find
theorem dX11_rows_26 : decode cX11_rows 26 = .ok (.invokevirtual 194, 3) := by decide +kernel
theorem dX11_rows_29 : decode cX11_rows 29 = .ok (.aload_n 0, 1) := by decide +kernel
theorem dX11_rows_30 : decode cX11_rows 30 = .ok (.getfield 68, 3) := by decide +kernel
set_option maxRecDepth 20000 in
theorem ggX11_rows_X9_keepFound : GoodIn wsX11_rows wsX9_keepFound := goodIn_r _ [181, 182, 9, 183, 184, 143, 185, 177, 198, 199, 200, 201, 202, 203, 204, 205, 206, 207, 208, 209] rfl (by decide +kernel)
set_option maxRecDepth 20000 in
theorem gX11_rows_X9_keepFound : GoodIn wsX11_rows (wsV RX11 198 RX9 yX9_keepFound wsX9_keepFound) := goodIn_app (goodIn_r _ [178, 179, 180, 7] rfl (by decide +kernel)) ggX11_rows_X9_keepFound
theorem dX11_rows_33 : decode cX11_rows 33 = .ok (.invokevirtual 198, 3) := by decide +kernel
theorem dX11_rows_36 : decode cX11_rows 36 = .ok (.ireturn, 1) := by decide +kernel
theorem dX11_row_0 : decode cX11_row 0 = .ok (.aload_n 0, 1) := by decide +kernel
theorem dX11_row_1 : decode cX11_row 1 = .ok (.getfield 68, 3) := by decide +kernel
theorem dX11_row_4 : decode cX11_row 4 = .ok (.iload_n 1, 1) := by decide +kernel
theorem dX11_row_5 : decode cX11_row 5 = .ok (.iload_n 2, 1) := by decide +kernel
set_option maxRecDepth 20000 in
theorem ggX11_row_X9_told : GoodIn wsX11_row wsX9_told := goodIn_r _ [6, 7, 8, 9, 10, 23, 24, 25, 26, 27, 28, 29, 30, 31, 32, 33, 34] rfl (by decide +kernel)
set_option maxRecDepth 20000 in
theorem gX11_row_X9_told : GoodIn wsX11_row (wsV RX11 201 RX9 yX9_told wsX9_told) := goodIn_app (goodIn_r _ [2, 3, 4, 5] rfl (by decide +kernel)) ggX11_row_X9_told
theorem dX11_row_6 : decode cX11_row 6 = .ok (.invokevirtual 201, 3) := by decide +kernel
theorem dX11_row_9 : decode cX11_row 9 = .ok (.ireturn, 1) := by decide +kernel
theorem dX11_cost_0 : decode cX11_cost 0 = .ok (.iload_n 1, 1) := by decide +kernel
set_option maxRecDepth 20000 in
theorem ggX11_cost_X11_isLetter : GoodIn wsX11_cost wsX11_isLetter := goodIn_r _ [6, 7, 8, 9] rfl (by decide +kernel)
set_option maxRecDepth 20000 in
theorem gX11_cost_X11_isLetter : GoodIn wsX11_cost (va_wsS RX11 205 yX11_isLetter wsX11_isLetter) := goodIn_app (goodIn_r _ [3, 4, 5] rfl (by decide +kernel)) ggX11_cost_X11_isLetter
theorem dX11_cost_1 : decode cX11_cost 1 = .ok (.invokestatic 205, 3) := by decide +kernel
theorem dX11_cost_4 : decode cX11_cost 4 = .ok (.ifCond .eq 23, 3) := by decide +kernel
theorem dX11_cost_27 : decode cX11_cost 27 = .ok (.iconst 0, 1) := by decide +kernel
theorem dX11_cost_28 : decode cX11_cost 28 = .ok (.ireturn, 1) := by decide +kernel
theorem dX11_cost_7 : decode cX11_cost 7 = .ok (.iload_n 2, 1) := by decide +kernel
theorem dX11_cost_8 : decode cX11_cost 8 = .ok (.invokestatic 205, 3) := by decide +kernel
theorem dX11_cost_11 : decode cX11_cost 11 = .ok (.ifCond .eq 16, 3) := by decide +kernel
theorem dX11_cost_14 : decode cX11_cost 14 = .ok (.aload_n 0, 1) := by decide +kernel
theorem dX11_cost_15 : decode cX11_cost 15 = .ok (.getfield 52, 3) := by decide +kernel
theorem dX11_cost_18 : decode cX11_cost 18 = .ok (.iload_n 1, 1) := by decide +kernel
theorem dX11_cost_19 : decode cX11_cost 19 = .ok (.iload_n 2, 1) := by decide +kernel
theorem dX11_cost_20 : decode cX11_cost 20 = .ok (.iload_n 3, 1) := by decide +kernel
set_option maxRecDepth 20000 in
theorem ggX11_cost_X3_tell : GoodIn wsX11_cost wsX3_tell := goodIn_r _ [14, 15, 16, 17, 18, 19, 20, 13, 21, 22, 23, 24, 25, 44, 45, 46] rfl (by decide +kernel)
set_option maxRecDepth 20000 in
theorem gX11_cost_X3_tell : GoodIn wsX11_cost (wsV RX11 208 RX3 yX3_tell wsX3_tell) := goodIn_app (goodIn_r _ [10, 11, 12, 13] rfl (by decide +kernel)) ggX11_cost_X3_tell
theorem dX11_cost_21 : decode cX11_cost 21 = .ok (.invokevirtual 208, 3) := by decide +kernel
theorem dX11_cost_24 : decode cX11_cost 24 = .ok (.ifCond .ne 5, 3) := by decide +kernel
theorem dX11_cost_29 : decode cX11_cost 29 = .ok (.aload_n 0, 1) := by decide +kernel
theorem dX11_cost_30 : decode cX11_cost 30 = .ok (.getfield 86, 3) := by decide +kernel
set_option maxRecDepth 20000 in
theorem ggX11_cost_X1_forgetFreshness : GoodIn wsX11_cost wsX1_forgetFreshness := goodIn_r _ [30, 31, 47, 48, 49, 50, 51, 52, 53, 54, 55, 56, 57, 58, 59, 60, 61, 62, 63, 64, 65, 66] rfl (by decide +kernel)
set_option maxRecDepth 20000 in
theorem gX11_cost_X1_forgetFreshness : GoodIn wsX11_cost (wsV RX11 143 RX1 yX1_forgetFreshness wsX1_forgetFreshness) := goodIn_app (goodIn_r _ [26, 27, 28, 29] rfl (by decide +kernel)) ggX11_cost_X1_forgetFreshness
theorem dX11_cost_33 : decode cX11_cost 33 = .ok (.invokevirtual 143, 3) := by decide +kernel
theorem dX11_cost_36 : decode cX11_cost 36 = .ok (.iconst 1, 1) := by decide +kernel
theorem dX11_cost_37 : decode cX11_cost 37 = .ok (.ireturn, 1) := by decide +kernel
theorem dX11_worth_0 : decode cX11_worth 0 = .ok (.aload_n 0, 1) := by decide +kernel
theorem dX11_worth_1 : decode cX11_worth 1 = .ok (.getfield 52, 3) := by decide +kernel
theorem dX11_worth_4 : decode cX11_worth 4 = .ok (.aload_n 0, 1) := by decide +kernel
theorem dX11_worth_5 : decode cX11_worth 5 = .ok (.getfield 34, 3) := by decide +kernel
set_option maxRecDepth 20000 in
theorem ggX11_worth_X3_ofText : GoodIn wsX11_worth wsX3_ofText := goodIn_r _ [7, 8, 9, 10, 11, 12, 13, 14, 15, 16, 17, 18, 19, 20, 21, 6, 22, 23, 24, 25, 26, 27, 28, 29, 30, 31, 32, 33, 34, 35, 36, 37, 38, 39, 52, 53, 54, 55, 56] rfl (by decide +kernel)
set_option maxRecDepth 20000 in
theorem gX11_worth_X3_ofText : GoodIn wsX11_worth (wsV RX11 211 RX3 yX3_ofText wsX3_ofText) := goodIn_app (goodIn_r _ [3, 4, 5, 6] rfl (by decide +kernel)) ggX11_worth_X3_ofText
theorem dX11_worth_8 : decode cX11_worth 8 = .ok (.invokevirtual 211, 3) := by decide +kernel
theorem dX11_worth_11 : decode cX11_worth 11 = .ok (.ireturn, 1) := by decide +kernel
theorem dX11_mend_0 : decode cX11_mend 0 = .ok (.aload_n 0, 1) := by decide +kernel
theorem dX11_mend_1 : decode cX11_mend 1 = .ok (.iconst (-1), 1) := by decide +kernel
theorem dX11_mend_2 : decode cX11_mend 2 = .ok (.putfield 90, 3) := by decide +kernel
theorem dX11_mend_5 : decode cX11_mend 5 = .ok (.iload_n 1, 1) := by decide +kernel
theorem dX11_mend_6 : decode cX11_mend 6 = .ok (.iconst 1, 1) := by decide +kernel
theorem dX11_mend_7 : decode cX11_mend 7 = .ok (.if_icmp .lt 19, 3) := by decide +kernel
theorem dX11_mend_26 : decode cX11_mend 26 = .ok (.iconst (-1), 1) := by decide +kernel
theorem dX11_mend_27 : decode cX11_mend 27 = .ok (.ireturn, 1) := by decide +kernel
theorem dX11_mend_10 : decode cX11_mend 10 = .ok (.iload_n 1, 1) := by decide +kernel
theorem dX11_mend_11 : decode cX11_mend 11 = .ok (.iconst 3, 1) := by decide +kernel
theorem dX11_mend_12 : decode cX11_mend 12 = .ok (.if_icmp .gt 14, 3) := by decide +kernel
theorem dX11_mend_15 : decode cX11_mend 15 = .ok (.iload_n 2, 1) := by decide +kernel
theorem dX11_mend_16 : decode cX11_mend 16 = .ok (.iconst 1, 1) := by decide +kernel
theorem dX11_mend_17 : decode cX11_mend 17 = .ok (.if_icmp .lt 9, 3) := by decide +kernel
theorem dX11_mend_20 : decode cX11_mend 20 = .ok (.iload_n 2, 1) := by decide +kernel
theorem dX11_mend_21 : decode cX11_mend 21 = .ok (.ldc 214, 2) := by decide +kernel
theorem dX11_mend_23 : decode cX11_mend 23 = .ok (.if_icmp .le 5, 3) := by decide +kernel
theorem dX11_mend_28 : decode cX11_mend 28 = .ok (.aload_n 0, 1) := by decide +kernel
theorem dX11_mend_29 : decode cX11_mend 29 = .ok (.getfield 68, 3) := by decide +kernel
theorem dX11_mend_32 : decode cX11_mend 32 = .ok (.iload_n 1, 1) := by decide +kernel
theorem dX11_mend_33 : decode cX11_mend 33 = .ok (.aload_n 0, 1) := by decide +kernel
theorem dX11_mend_34 : decode cX11_mend 34 = .ok (.getfield 34, 3) := by decide +kernel
set_option maxRecDepth 20000 in
theorem ggX11_mend_X9_find : GoodIn wsX11_mend wsX9_find := goodIn_r _ [11, 12, 13, 14, 15, 16, 17, 18, 19, 20, 21, 22, 23, 24, 25, 26, 27, 28, 29, 30, 31, 32, 33, 34, 35, 36, 37, 38, 39, 40, 41, 42, 43, 44, 45, 46, 47, 48, 49, 50, 51, 52, 53, 54, 55, 56, 57, 58, 59, 60, 61, 62, 63, 64, 65, 66, 67, 68, 69, 70, 71, 72, 73, 74, 75, 76, 77, 78, 79, 80, 81, 82, 83, 84, 85, 86, 87, 88, 89, 90, 91, 92, 93, 94, 95, 96, 97, 98, 99, 100, 101, 102, 103, 104, 105, 106, 107, 108, 109, 110, 111, 112, 113, 114, 115, 116, 117, 118, 119, 120, 121, 122, 123, 124, 125, 126, 127, 128, 129, 130, 131, 132, 133, 134, 135, 136, 137, 138, 139, 140, 141, 142, 143, 10, 144, 145, 146, 147, 148, 149, 150, 151, 152, 153, 154, 155, 156, 157, 158, 159, 160, 161, 162, 163, 164, 165, 166, 167, 168, 169, 170, 171, 172, 173, 174, 175, 176, 177, 178, 179, 180, 250, 251, 252, 253, 254, 255, 256, 257, 258, 259, 260, 261, 262, 263, 264, 265, 266, 267, 268, 269, 270, 271, 272, 273, 274, 275, 276, 277, 278, 279] rfl (by decide +kernel)
set_option maxRecDepth 20000 in
theorem gX11_mend_X9_find : GoodIn wsX11_mend (wsV RX11 194 RX9 yX9_find wsX9_find) := goodIn_app (goodIn_r _ [7, 8, 9, 10] rfl (by decide +kernel)) ggX11_mend_X9_find
theorem dX11_mend_37 : decode cX11_mend 37 = .ok (.invokevirtual 194, 3) := by decide +kernel
theorem dX11_mend_40 : decode cX11_mend 40 = .ok (.aload_n 0, 1) := by decide +kernel
theorem dX11_mend_41 : decode cX11_mend 41 = .ok (.getfield 68, 3) := by decide +kernel
set_option maxRecDepth 20000 in
theorem ggX11_mend_X9_cheapest : GoodIn wsX11_mend wsX9_cheapest := goodIn_r _ [184, 12, 250, 251, 252, 253, 254, 255, 256, 257, 258, 259, 260, 261] rfl (by decide +kernel)
set_option maxRecDepth 20000 in
theorem gX11_mend_X9_cheapest : GoodIn wsX11_mend (wsV RX11 215 RX9 yX9_cheapest wsX9_cheapest) := goodIn_app (goodIn_r _ [181, 182, 183, 10] rfl (by decide +kernel)) ggX11_mend_X9_cheapest
theorem dX11_mend_44 : decode cX11_mend 44 = .ok (.invokevirtual 215, 3) := by decide +kernel
theorem dX11_mend_47 : decode cX11_mend 47 = .ok (.istore_n 3, 1) := by decide +kernel
theorem dX11_mend_48 : decode cX11_mend 48 = .ok (.iload_n 3, 1) := by decide +kernel
theorem dX11_mend_49 : decode cX11_mend 49 = .ok (.iconst (-1), 1) := by decide +kernel
theorem dX11_mend_50 : decode cX11_mend 50 = .ok (.if_icmp .eq 27, 3) := by decide +kernel
theorem dX11_mend_77 : decode cX11_mend 77 = .ok (.iconst (-1), 1) := by decide +kernel
theorem dX11_mend_78 : decode cX11_mend 78 = .ok (.ireturn, 1) := by decide +kernel
theorem dX11_parts_0 : decode cX11_parts 0 = .ok (.aload_n 0, 1) := by decide +kernel
theorem dX11_parts_1 : decode cX11_parts 1 = .ok (.iconst (-1), 1) := by decide +kernel
theorem dX11_parts_2 : decode cX11_parts 2 = .ok (.putfield 90, 3) := by decide +kernel
theorem dX11_parts_5 : decode cX11_parts 5 = .ok (.aload_n 0, 1) := by decide +kernel
theorem dX11_parts_6 : decode cX11_parts 6 = .ok (.getfield 34, 3) := by decide +kernel
set_option maxRecDepth 20000 in
theorem ggX11_parts_X5_length : GoodIn wsX11_parts wsX5_length := goodIn_r _ [9, 10, 292, 293] rfl (by decide +kernel)
set_option maxRecDepth 20000 in
theorem gX11_parts_X5_length : GoodIn wsX11_parts (wsV RX11 94 RX5 yX5_length wsX5_length) := goodIn_app (goodIn_r _ [5, 6, 7, 8] rfl (by decide +kernel)) ggX11_parts_X5_length
theorem dX11_parts_9 : decode cX11_parts 9 = .ok (.invokevirtual 94, 3) := by decide +kernel
theorem dX11_parts_12 : decode cX11_parts 12 = .ok (.ifCond .le 19, 3) := by decide +kernel
theorem dX11_parts_31 : decode cX11_parts 31 = .ok (.iconst 0, 1) := by decide +kernel
theorem dX11_parts_32 : decode cX11_parts 32 = .ok (.istore_n 2, 1) := by decide +kernel
theorem dX11_parts_33 : decode cX11_parts 33 = .ok (.iload_n 2, 1) := by decide +kernel
theorem dX11_parts_34 : decode cX11_parts 34 = .ok (.ifCond .eq 14, 3) := by decide +kernel
theorem dX11_parts_48 : decode cX11_parts 48 = .ok (.iconst (-1), 1) := by decide +kernel
theorem dX11_parts_49 : decode cX11_parts 49 = .ok (.ireturn, 1) := by decide +kernel
theorem dX11_choices_0 : decode cX11_choices 0 = .ok (.aload_n 0, 1) := by decide +kernel
theorem dX11_choices_1 : decode cX11_choices 1 = .ok (.iconst (-1), 1) := by decide +kernel
theorem dX11_choices_2 : decode cX11_choices 2 = .ok (.putfield 90, 3) := by decide +kernel
theorem dX11_choices_5 : decode cX11_choices 5 = .ok (.aload_n 0, 1) := by decide +kernel
theorem dX11_choices_6 : decode cX11_choices 6 = .ok (.getfield 34, 3) := by decide +kernel
set_option maxRecDepth 20000 in
theorem ggX11_choices_X11_marksOf : GoodIn wsX11_choices wsX11_marksOf := goodIn_r _ [7, 8, 9, 10, 11, 12, 13, 14, 15, 16, 17, 18, 19, 236, 237] rfl (by decide +kernel)
set_option maxRecDepth 20000 in
theorem gX11_choices_X11_marksOf : GoodIn wsX11_choices (va_wsS RX11 152 yX11_marksOf wsX11_marksOf) := goodIn_app (goodIn_r _ [4, 5, 6] rfl (by decide +kernel)) ggX11_choices_X11_marksOf
theorem dX11_choices_9 : decode cX11_choices 9 = .ok (.invokestatic 152, 3) := by decide +kernel
theorem dX11_choices_12 : decode cX11_choices 12 = .ok (.istore_n 3, 1) := by decide +kernel
theorem dX11_choices_13 : decode cX11_choices 13 = .ok (.iload_n 1, 1) := by decide +kernel
set_option maxRecDepth 20000 in
theorem ggX11_choices_X2_known : GoodIn wsX11_choices wsX2_known := goodIn_r _ [23] rfl (by decide +kernel)
set_option maxRecDepth 20000 in
theorem gX11_choices_X2_known : GoodIn wsX11_choices (va_wsS RX11 117 yX2_known wsX2_known) := goodIn_app (goodIn_r _ [20, 21, 22] rfl (by decide +kernel)) ggX11_choices_X2_known
theorem dX11_choices_14 : decode cX11_choices 14 = .ok (.invokestatic 117, 3) := by decide +kernel
theorem dX11_choices_17 : decode cX11_choices 17 = .ok (.ifCond .eq 24, 3) := by decide +kernel
theorem dX11_choices_41 : decode cX11_choices 41 = .ok (.iconst 0, 1) := by decide +kernel
theorem dX11_choices_42 : decode cX11_choices 42 = .ok (.istore 4, 2) := by decide +kernel
theorem dX11_choices_44 : decode cX11_choices 44 = .ok (.iload 4, 2) := by decide +kernel
theorem dX11_choices_46 : decode cX11_choices 46 = .ok (.ifCond .eq 15, 3) := by decide +kernel
theorem dX11_choices_61 : decode cX11_choices 61 = .ok (.iconst (-1), 1) := by decide +kernel
theorem dX11_choices_62 : decode cX11_choices 62 = .ok (.ireturn, 1) := by decide +kernel
theorem dX11_choices_20 : decode cX11_choices 20 = .ok (.iload_n 2, 1) := by decide +kernel
theorem dX11_choices_21 : decode cX11_choices 21 = .ok (.invokestatic 117, 3) := by decide +kernel
theorem dX11_choices_24 : decode cX11_choices 24 = .ok (.ifCond .eq 17, 3) := by decide +kernel
theorem dX11_choices_27 : decode cX11_choices 27 = .ok (.iload_n 3, 1) := by decide +kernel
theorem dX11_choices_28 : decode cX11_choices 28 = .ok (.iconst 1, 1) := by decide +kernel
theorem dX11_choices_29 : decode cX11_choices 29 = .ok (.if_icmp .eq 8, 3) := by decide +kernel
theorem dX11_choices_32 : decode cX11_choices 32 = .ok (.iload_n 3, 1) := by decide +kernel
theorem dX11_choices_33 : decode cX11_choices 33 = .ok (.iconst 2, 1) := by decide +kernel
theorem dX11_choices_34 : decode cX11_choices 34 = .ok (.if_icmp .ne 7, 3) := by decide +kernel
theorem dX11_choice_0 : decode cX11_choice 0 = .ok (.aload_n 0, 1) := by decide +kernel
theorem dX11_choice_1 : decode cX11_choice 1 = .ok (.getfield 86, 3) := by decide +kernel
theorem dX11_choice_4 : decode cX11_choice 4 = .ok (.iload_n 1, 1) := by decide +kernel
theorem dX11_choice_5 : decode cX11_choice 5 = .ok (.iload_n 2, 1) := by decide +kernel
set_option maxRecDepth 20000 in
theorem ggX11_choice_X1_told : GoodIn wsX11_choice wsX1_told := goodIn_r _ [6, 7, 8, 9, 10, 11, 24, 25, 26, 27, 28, 29, 30, 31, 32, 33, 34, 35, 36, 37, 38, 39, 40, 41, 42, 43] rfl (by decide +kernel)
set_option maxRecDepth 20000 in
theorem gX11_choice_X1_told : GoodIn wsX11_choice (wsV RX11 242 RX1 yX1_told wsX1_told) := goodIn_app (goodIn_r _ [2, 3, 4, 5] rfl (by decide +kernel)) ggX11_choice_X1_told
theorem dX11_choice_6 : decode cX11_choice 6 = .ok (.invokevirtual 242, 3) := by decide +kernel
theorem dX11_choice_9 : decode cX11_choice 9 = .ok (.ireturn, 1) := by decide +kernel
theorem dX11_chosen_0 : decode cX11_chosen 0 = .ok (.aload_n 0, 1) := by decide +kernel
theorem dX11_chosen_1 : decode cX11_chosen 1 = .ok (.getfield 86, 3) := by decide +kernel
theorem dX11_chosen_4 : decode cX11_chosen 4 = .ok (.iload_n 1, 1) := by decide +kernel
set_option maxRecDepth 20000 in
theorem ggX11_chosen_X1_isFresh : GoodIn wsX11_chosen wsX1_isFresh := goodIn_r _ [9, 10, 11, 182, 183, 184, 185, 186, 187, 188, 189, 190, 191, 192, 193, 194, 195, 196, 197, 198, 199, 200, 201] rfl (by decide +kernel)
set_option maxRecDepth 20000 in
theorem gX11_chosen_X1_isFresh : GoodIn wsX11_chosen (wsV RX11 243 RX1 yX1_isFresh wsX1_isFresh) := goodIn_app (goodIn_r _ [5, 6, 7, 8] rfl (by decide +kernel)) ggX11_chosen_X1_isFresh
theorem dX11_chosen_5 : decode cX11_chosen 5 = .ok (.invokevirtual 243, 3) := by decide +kernel
theorem dX11_chosen_8 : decode cX11_chosen 8 = .ok (.ifCond .eq 26, 3) := by decide +kernel
theorem dX11_chosen_34 : decode cX11_chosen 34 = .ok (.iconst 0, 1) := by decide +kernel
theorem dX11_chosen_35 : decode cX11_chosen 35 = .ok (.ireturn, 1) := by decide +kernel
