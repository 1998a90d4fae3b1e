theorem dX11_passes_0 : decode cX11_passes 0 = .ok (.aload_n 0, 1) := by decide +kernel
theorem dX11_passes_1 : decode cX11_passes 1 = .ok (.iconst (-1), 1) := by decide +kernel
theorem dX11_passes_2 : decode cX11_passes 2 = .ok (.putfield 90, 3) := by decide +kernel
theorem dX11_passes_5 : decode cX11_passes 5 = .ok (.iload_n 1, 1) := by decide +kernel
set_option maxRecDepth 20000 in
theorem ggX11_passes_X2_known : GoodIn wsX11_passes wsX2_known := goodIn_r _ [8] rfl (by decide +kernel)
set_option maxRecDepth 20000 in
theorem gX11_passes_X2_known : GoodIn wsX11_passes (va_wsS RX11 117 yX2_known wsX2_known) := goodIn_app (goodIn_r _ [5, 6, 7] rfl (by decide +kernel)) ggX11_passes_X2_known
theorem dX11_passes_6 : decode cX11_passes 6 = .ok (.invokestatic 117, 3) := by decide +kernel
theorem dX11_passes_9 : decode cX11_passes 9 = .ok (.ifCond .eq 10, 3) := by decide +kernel
theorem dX11_passes_19 : decode cX11_passes 19 = .ok (.iconst 0, 1) := by decide +kernel
theorem dX11_passes_20 : decode cX11_passes 20 = .ok (.ireturn, 1) := by decide +kernel
theorem dX11_passes_12 : decode cX11_passes 12 = .ok (.iload_n 2, 1) := by decide +kernel
theorem dX11_passes_13 : decode cX11_passes 13 = .ok (.invokestatic 117, 3) := by decide +kernel
theorem dX11_passes_16 : decode cX11_passes 16 = .ok (.ifCond .ne 5, 3) := by decide +kernel
theorem dX11_passes_21 : decode cX11_passes 21 = .ok (.aload_n 0, 1) := by decide +kernel
theorem dX11_passes_22 : decode cX11_passes 22 = .ok (.getfield 44, 3) := by decide +kernel
theorem dX11_passes_25 : decode cX11_passes 25 = .ok (.iload_n 1, 1) := by decide +kernel
theorem dX11_passes_26 : decode cX11_passes 26 = .ok (.iload_n 2, 1) := by decide +kernel
theorem dX11_passes_27 : decode cX11_passes 27 = .ok (.aload_n 0, 1) := by decide +kernel
theorem dX11_passes_28 : decode cX11_passes 28 = .ok (.getfield 34, 3) := by decide +kernel
theorem dX11_passes_31 : decode cX11_passes 31 = .ok (.aload_n 0, 1) := by decide +kernel
theorem dX11_passes_32 : decode cX11_passes 32 = .ok (.getfield 37, 3) := by decide +kernel
set_option maxRecDepth 20000 in
theorem ggX11_passes_X7_pass : GoodIn wsX11_passes wsX7_pass := goodIn_r _ [13, 14, 15, 16, 17, 12, 18, 19, 20, 21, 22, 23, 24, 25, 26, 27, 28, 29, 30, 31, 32, 33, 34, 35, 36, 37, 38, 7, 39, 40, 41, 42, 43, 44, 45, 46, 47, 48, 49, 50, 51, 52, 53, 54, 55, 56, 57, 58, 59, 60, 61, 62, 63, 64, 65, 66, 67, 68, 69, 70, 71, 72, 73, 74, 75, 76, 77, 78, 79, 80, 81, 82, 83, 84, 85, 86, 87, 88, 89, 90, 91, 92, 93, 94, 95, 96, 97, 98, 99, 100, 101, 102, 103, 104, 105, 106, 107, 108, 109, 110, 111, 112, 113, 114, 131, 132, 133, 134, 135, 136, 137, 138, 139, 140, 141] rfl (by decide +kernel)
set_option maxRecDepth 20000 in
theorem gX11_passes_X7_pass : GoodIn wsX11_passes (wsV RX11 253 RX7 yX7_pass wsX7_pass) := goodIn_app (goodIn_r _ [9, 10, 11, 12] rfl (by decide +kernel)) ggX11_passes_X7_pass
theorem dX11_passes_35 : decode cX11_passes 35 = .ok (.invokevirtual 253, 3) := by decide +kernel
theorem dX11_passes_38 : decode cX11_passes 38 = .ok (.istore_n 3, 1) := by decide +kernel
theorem dX11_passes_39 : decode cX11_passes 39 = .ok (.aload_n 0, 1) := by decide +kernel
theorem dX11_passes_40 : decode cX11_passes 40 = .ok (.aload_n 0, 1) := by decide +kernel
theorem dX11_passes_41 : decode cX11_passes 41 = .ok (.getfield 44, 3) := by decide +kernel
set_option maxRecDepth 20000 in
theorem ggX11_passes_X7_fault : GoodIn wsX11_passes wsX7_fault := goodIn_r _ [118, 19, 131, 132, 133] rfl (by decide +kernel)
set_option maxRecDepth 20000 in
theorem gX11_passes_X7_fault : GoodIn wsX11_passes (wsV RX11 127 RX7 yX7_fault wsX7_fault) := goodIn_app (goodIn_r _ [115, 116, 117, 12] rfl (by decide +kernel)) ggX11_passes_X7_fault
theorem dX11_passes_44 : decode cX11_passes 44 = .ok (.invokevirtual 127, 3) := by decide +kernel
theorem dX11_passes_47 : decode cX11_passes 47 = .ok (.putfield 90, 3) := by decide +kernel
theorem dX11_passes_50 : decode cX11_passes 50 = .ok (.iload_n 3, 1) := by decide +kernel
theorem dX11_passes_51 : decode cX11_passes 51 = .ok (.ireturn, 1) := by decide +kernel
theorem dX11_harm_0 : decode cX11_harm 0 = .ok (.aload_n 0, 1) := by decide +kernel
theorem dX11_harm_1 : decode cX11_harm 1 = .ok (.iload_n 1, 1) := by decide +kernel
theorem dX11_harm_2 : decode cX11_harm 2 = .ok (.iload_n 2, 1) := by decide +kernel
set_option maxRecDepth 20000 in
theorem ggX11_harm_X11_passes : GoodIn wsX11_harm wsX11_passes := goodIn_r _ [6, 7, 8, 9, 1, 10, 11, 12, 13, 14, 15, 16, 17, 18, 19, 20, 21, 22, 23, 24, 25, 26, 27, 28, 29, 30, 31, 32, 33, 34, 35, 36, 37, 38, 39, 40, 41, 42, 43, 44, 45, 46, 47, 48, 49, 50, 51, 52, 53, 54, 55, 56, 57, 58, 59, 60, 61, 62, 63, 64, 65, 66, 67, 68, 69, 70, 71, 72, 73, 74, 75, 76, 77, 78, 79, 80, 81, 82, 83, 84, 85, 86, 87, 88, 89, 90, 91, 92, 93, 94, 95, 96, 97, 98, 99, 100, 101, 102, 103, 104, 5, 105, 106, 107, 108, 109, 110, 111, 112, 113, 114, 115, 116, 117, 118, 119, 120, 121, 122, 162, 163, 164, 165, 166, 167, 168, 169, 170, 171, 172, 173, 174, 175, 176, 177, 178, 179, 180, 181, 182, 183, 184] rfl (by decide +kernel)
set_option maxRecDepth 20000 in
theorem gX11_harm_X11_passes : GoodIn wsX11_harm (wsV RX11 177 RX11 yX11_passes wsX11_passes) := goodIn_app (goodIn_r _ [2, 3, 4, 5] rfl (by decide +kernel)) ggX11_harm_X11_passes
theorem dX11_harm_3 : decode cX11_harm 3 = .ok (.invokevirtual 177, 3) := by decide +kernel
theorem dX11_harm_6 : decode cX11_harm 6 = .ok (.ifCond .eq 14, 3) := by decide +kernel
theorem dX11_harm_20 : decode cX11_harm 20 = .ok (.iconst (-1), 1) := by decide +kernel
theorem dX11_harm_21 : decode cX11_harm 21 = .ok (.ireturn, 1) := by decide +kernel
theorem dX11_harm_9 : decode cX11_harm 9 = .ok (.aload_n 0, 1) := by decide +kernel
theorem dX11_harm_10 : decode cX11_harm 10 = .ok (.aload_n 0, 1) := by decide +kernel
theorem dX11_harm_11 : decode cX11_harm 11 = .ok (.getfield 37, 3) := by decide +kernel
set_option maxRecDepth 20000 in
theorem ggX11_harm_X11_become : GoodIn wsX11_harm wsX11_become := goodIn_r _ [126, 127, 9, 128, 129, 130, 131, 132, 133, 134, 135, 82, 136, 137, 138, 139, 140, 141, 33, 34, 29, 35, 31, 142, 37, 38, 39, 40, 143, 144, 145, 146, 147, 148, 149, 150, 151, 152, 153, 154, 155, 156, 157, 158, 159, 160, 161, 162, 163, 164, 165, 166, 167, 168, 169, 170, 171, 172, 173, 185, 186, 187, 188, 177, 178, 189, 190, 191, 192, 193, 194, 195, 196, 197, 198, 199, 200, 201, 202, 203, 204, 205, 206, 207, 208] rfl (by decide +kernel)
set_option maxRecDepth 20000 in
theorem gX11_harm_X11_become : GoodIn wsX11_harm (wsV RX11 113 RX11 yX11_become wsX11_become) := goodIn_app (goodIn_r _ [123, 124, 125, 5] rfl (by decide +kernel)) ggX11_harm_X11_become
theorem dX11_harm_14 : decode cX11_harm 14 = .ok (.invokevirtual 113, 3) := by decide +kernel
theorem dX11_harm_17 : decode cX11_harm 17 = .ok (.goto 4, 3) := by decide +kernel
theorem dX11_undo_0 : decode cX11_undo 0 = .ok (.aload_n 0, 1) := by decide +kernel
theorem dX11_undo_1 : decode cX11_undo 1 = .ok (.iload_n 2, 1) := by decide +kernel
theorem dX11_undo_2 : decode cX11_undo 2 = .ok (.iload_n 1, 1) := by decide +kernel
set_option maxRecDepth 20000 in
theorem ggX11_undo_X11_passes : GoodIn wsX11_undo wsX11_passes := goodIn_r _ [6, 7, 8, 9, 1, 10, 11, 12, 13, 14, 15, 16, 17, 18, 19, 20, 21, 22, 23, 24, 25, 26, 27, 28, 29, 30, 31, 32, 33, 34, 35, 36, 37, 38, 39, 40, 41, 42, 43, 44, 45, 46, 47, 48, 49, 50, 51, 52, 53, 54, 55, 56, 57, 58, 59, 60, 61, 62, 63, 64, 65, 66, 67, 68, 69, 70, 71, 72, 73, 74, 75, 76, 77, 78, 79, 80, 81, 82, 83, 84, 85, 86, 87, 88, 89, 90, 91, 92, 93, 94, 95, 96, 97, 98, 99, 100, 101, 102, 103, 104, 5, 105, 106, 107, 108, 109, 110, 111, 112, 113, 114, 115, 116, 117, 118, 119, 120, 121, 122, 162, 163, 164, 165, 166, 167, 168, 169, 170, 171, 172, 173, 174, 175, 176, 177, 178, 179, 180, 181, 182, 183, 184] rfl (by decide +kernel)
set_option maxRecDepth 20000 in
theorem gX11_undo_X11_passes : GoodIn wsX11_undo (wsV RX11 177 RX11 yX11_passes wsX11_passes) := goodIn_app (goodIn_r _ [2, 3, 4, 5] rfl (by decide +kernel)) ggX11_undo_X11_passes
theorem dX11_undo_3 : decode cX11_undo 3 = .ok (.invokevirtual 177, 3) := by decide +kernel
theorem dX11_undo_6 : decode cX11_undo 6 = .ok (.ifCond .eq 14, 3) := by decide +kernel
theorem dX11_undo_20 : decode cX11_undo 20 = .ok (.iconst (-1), 1) := by decide +kernel
theorem dX11_undo_21 : decode cX11_undo 21 = .ok (.ireturn, 1) := by decide +kernel
theorem dX11_undo_9 : decode cX11_undo 9 = .ok (.aload_n 0, 1) := by decide +kernel
theorem dX11_undo_10 : decode cX11_undo 10 = .ok (.aload_n 0, 1) := by decide +kernel
theorem dX11_undo_11 : decode cX11_undo 11 = .ok (.getfield 37, 3) := by decide +kernel
set_option maxRecDepth 20000 in
theorem ggX11_undo_X11_become : GoodIn wsX11_undo wsX11_become := goodIn_r _ [126, 127, 9, 128, 129, 130, 131, 132, 133, 134, 135, 82, 136, 137, 138, 139, 140, 141, 33, 34, 29, 35, 31, 142, 37, 38, 39, 40, 143, 144, 145, 146, 147, 148, 149, 150, 151, 152, 153, 154, 155, 156, 157, 158, 159, 160, 161, 162, 163, 164, 165, 166, 167, 168, 169, 170, 171, 172, 173, 185, 186, 187, 188, 177, 178, 189, 190, 191, 192, 193, 194, 195, 196, 197, 198, 199, 200, 201, 202, 203, 204, 205, 206, 207, 208] rfl (by decide +kernel)
set_option maxRecDepth 20000 in
theorem gX11_undo_X11_become : GoodIn wsX11_undo (wsV RX11 113 RX11 yX11_become wsX11_become) := goodIn_app (goodIn_r _ [123, 124, 125, 5] rfl (by decide +kernel)) ggX11_undo_X11_become
theorem dX11_undo_14 : decode cX11_undo 14 = .ok (.invokevirtual 113, 3) := by decide +kernel
theorem dX11_undo_17 : decode cX11_undo 17 = .ok (.goto 4, 3) := by decide +kernel
