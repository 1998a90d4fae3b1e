theorem dX12_harm_0 : decode cX12_harm 0 = .ok (.aload_n 0, 1) := by decide +kernel
theorem dX12_harm_1 : decode cX12_harm 1 = .ok (.iconst 0, 1) := by decide +kernel
theorem dX12_harm_2 : decode cX12_harm 2 = .ok (.putfield 85, 3) := by decide +kernel
theorem dX12_harm_5 : decode cX12_harm 5 = .ok (.aload_n 0, 1) := by decide +kernel
theorem dX12_harm_6 : decode cX12_harm 6 = .ok (.iconst (-1), 1) := by decide +kernel
theorem dX12_harm_7 : decode cX12_harm 7 = .ok (.putfield 55, 3) := by decide +kernel
theorem dX12_harm_10 : decode cX12_harm 10 = .ok (.iload_n 1, 1) := by decide +kernel
set_option maxRecDepth 20000 in
theorem ggX12_harm_X12_isCode : GoodIn wsX12_harm wsX12_isCode := goodIn_r _ [11] rfl (by decide +kernel)
set_option maxRecDepth 20000 in
theorem gX12_harm_X12_isCode : GoodIn wsX12_harm (va_wsS RX12 158 yX12_isCode wsX12_isCode) := goodIn_app (goodIn_r _ [8, 9, 10] rfl (by decide +kernel)) ggX12_harm_X12_isCode
theorem dX12_harm_11 : decode cX12_harm 11 = .ok (.invokestatic 158, 3) := by decide +kernel
theorem dX12_harm_14 : decode cX12_harm 14 = .ok (.ifCond .eq 10, 3) := by decide +kernel
theorem dX12_harm_24 : decode cX12_harm 24 = .ok (.iconst (-1), 1) := by decide +kernel
theorem dX12_harm_25 : decode cX12_harm 25 = .ok (.ireturn, 1) := by decide +kernel
theorem dX12_harm_17 : decode cX12_harm 17 = .ok (.iload_n 2, 1) := by decide +kernel
theorem dX12_harm_18 : decode cX12_harm 18 = .ok (.invokestatic 158, 3) := by decide +kernel
theorem dX12_harm_21 : decode cX12_harm 21 = .ok (.ifCond .ne 5, 3) := by decide +kernel
theorem dX12_harm_26 : decode cX12_harm 26 = .ok (.aload_n 0, 1) := by decide +kernel
theorem dX12_harm_27 : decode cX12_harm 27 = .ok (.iload_n 1, 1) := by decide +kernel
theorem dX12_harm_28 : decode cX12_harm 28 = .ok (.iload_n 2, 1) := by decide +kernel
theorem dX12_harm_29 : decode cX12_harm 29 = .ok (.aload_n 0, 1) := by decide +kernel
theorem dX12_harm_30 : decode cX12_harm 30 = .ok (.getfield 16, 3) := by decide +kernel
theorem dX12_harm_33 : decode cX12_harm 33 = .ok (.aload_n 0, 1) := by decide +kernel
theorem dX12_harm_34 : decode cX12_harm 34 = .ok (.getfield 13, 3) := by decide +kernel
theorem dX12_harm_37 : decode cX12_harm 37 = .ok (.iconst 0, 1) := by decide +kernel
theorem dX12_harm_38 : decode cX12_harm 38 = .ok (.iaload, 1) := by decide +kernel
set_option maxRecDepth 20000 in
theorem ggX12_harm_X12_does : GoodIn wsX12_harm wsX12_does := goodIn_r _ [15, 5, 16, 7, 17, 18, 19, 10, 20, 21, 22, 23, 24, 25, 26, 27, 28, 29, 30, 31, 32, 33, 34, 35, 6, 36, 37, 38, 39, 40, 41, 42, 43, 44, 45, 46, 47, 48, 49, 50, 51, 52, 53, 54, 62, 63, 64, 65, 66, 67, 68, 69, 70, 71, 72, 73, 74, 75, 76, 77, 78, 79, 80, 81, 82, 83, 84, 85, 86, 87, 88, 89, 90, 91, 92, 93, 94, 95, 96, 97, 98, 99, 100, 101] rfl (by decide +kernel)
set_option maxRecDepth 20000 in
theorem gX12_harm_X12_does : GoodIn wsX12_harm (wsV RX12 138 RX12 yX12_does wsX12_does) := goodIn_app (goodIn_r _ [12, 13, 14, 10] rfl (by decide +kernel)) ggX12_harm_X12_does
theorem dX12_harm_39 : decode cX12_harm 39 = .ok (.invokevirtual 138, 3) := by decide +kernel
theorem dX12_harm_42 : decode cX12_harm 42 = .ok (.ifCond .ne 13, 3) := by decide +kernel
theorem dX12_harm_55 : decode cX12_harm 55 = .ok (.aload_n 0, 1) := by decide +kernel
theorem dX12_harm_56 : decode cX12_harm 56 = .ok (.aload_n 0, 1) := by decide +kernel
theorem dX12_harm_57 : decode cX12_harm 57 = .ok (.getfield 61, 3) := by decide +kernel
theorem dX12_harm_60 : decode cX12_harm 60 = .ok (.aload_n 0, 1) := by decide +kernel
theorem dX12_harm_61 : decode cX12_harm 61 = .ok (.getfield 119, 3) := by decide +kernel
set_option maxRecDepth 20000 in
theorem ggX12_harm_X12_become : GoodIn wsX12_harm wsX12_become := goodIn_r _ [58, 59, 60, 4, 3, 61, 62, 63, 64, 65, 66, 67, 68, 69, 70, 71, 72, 73, 74, 75, 76, 77, 78, 79, 80, 81, 82, 83, 84, 85, 86, 87, 88, 89, 90, 91, 92, 93, 94, 95, 96, 97, 98, 99, 100, 101] rfl (by decide +kernel)
set_option maxRecDepth 20000 in
theorem gX12_harm_X12_become : GoodIn wsX12_harm (wsV RX12 154 RX12 yX12_become wsX12_become) := goodIn_app (goodIn_r _ [55, 56, 57, 10] rfl (by decide +kernel)) ggX12_harm_X12_become
theorem dX12_harm_64 : decode cX12_harm 64 = .ok (.invokevirtual 154, 3) := by decide +kernel
theorem dX12_harm_67 : decode cX12_harm 67 = .ok (.aload_n 0, 1) := by decide +kernel
theorem dX12_harm_68 : decode cX12_harm 68 = .ok (.getfield 119, 3) := by decide +kernel
theorem dX12_harm_71 : decode cX12_harm 71 = .ok (.ireturn, 1) := by decide +kernel
theorem dX12_harm_45 : decode cX12_harm 45 = .ok (.aload_n 0, 1) := by decide +kernel
theorem dX12_harm_46 : decode cX12_harm 46 = .ok (.aload_n 0, 1) := by decide +kernel
theorem dX12_harm_47 : decode cX12_harm 47 = .ok (.getfield 102, 3) := by decide +kernel
theorem dX12_harm_50 : decode cX12_harm 50 = .ok (.putfield 55, 3) := by decide +kernel
theorem dX12_harm_53 : decode cX12_harm 53 = .ok (.iconst (-1), 1) := by decide +kernel
theorem dX12_harm_54 : decode cX12_harm 54 = .ok (.ireturn, 1) := by decide +kernel
theorem dX12_undo_0 : decode cX12_undo 0 = .ok (.aload_n 0, 1) := by decide +kernel
theorem dX12_undo_1 : decode cX12_undo 1 = .ok (.iconst 0, 1) := by decide +kernel
theorem dX12_undo_2 : decode cX12_undo 2 = .ok (.putfield 85, 3) := by decide +kernel
theorem dX12_undo_5 : decode cX12_undo 5 = .ok (.aload_n 0, 1) := by decide +kernel
theorem dX12_undo_6 : decode cX12_undo 6 = .ok (.iconst (-1), 1) := by decide +kernel
theorem dX12_undo_7 : decode cX12_undo 7 = .ok (.putfield 55, 3) := by decide +kernel
theorem dX12_undo_10 : decode cX12_undo 10 = .ok (.iload_n 1, 1) := by decide +kernel
set_option maxRecDepth 20000 in
theorem ggX12_undo_X12_isCode : GoodIn wsX12_undo wsX12_isCode := goodIn_r _ [9] rfl (by decide +kernel)
set_option maxRecDepth 20000 in
theorem gX12_undo_X12_isCode : GoodIn wsX12_undo (va_wsS RX12 158 yX12_isCode wsX12_isCode) := goodIn_app (goodIn_r _ [6, 7, 8] rfl (by decide +kernel)) ggX12_undo_X12_isCode
theorem dX12_undo_11 : decode cX12_undo 11 = .ok (.invokestatic 158, 3) := by decide +kernel
theorem dX12_undo_14 : decode cX12_undo 14 = .ok (.ifCond .eq 10, 3) := by decide +kernel
theorem dX12_undo_24 : decode cX12_undo 24 = .ok (.iconst (-1), 1) := by decide +kernel
theorem dX12_undo_25 : decode cX12_undo 25 = .ok (.ireturn, 1) := by decide +kernel
theorem dX12_undo_17 : decode cX12_undo 17 = .ok (.iload_n 2, 1) := by decide +kernel
theorem dX12_undo_18 : decode cX12_undo 18 = .ok (.invokestatic 158, 3) := by decide +kernel
theorem dX12_undo_21 : decode cX12_undo 21 = .ok (.ifCond .ne 5, 3) := by decide +kernel
theorem dX12_undo_26 : decode cX12_undo 26 = .ok (.aload_n 0, 1) := by decide +kernel
set_option maxRecDepth 20000 in
theorem ggX12_undo_X12_takeText : GoodIn wsX12_undo wsX12_takeText := goodIn_r _ [13, 14, 5, 4, 15, 73, 74, 75, 76, 77, 78, 79, 80, 81, 82, 83, 84, 85, 86, 87, 88, 89, 90, 91, 92, 93, 94, 95, 96, 97, 98, 99, 100, 101, 102, 103, 104, 105, 106, 107, 108, 109, 110, 111, 112] rfl (by decide +kernel)
set_option maxRecDepth 20000 in
theorem gX12_undo_X12_takeText : GoodIn wsX12_undo (wsV RX12 171 RX12 yX12_takeText wsX12_takeText) := goodIn_app (goodIn_r _ [10, 11, 12, 8] rfl (by decide +kernel)) ggX12_undo_X12_takeText
theorem dX12_undo_27 : decode cX12_undo 27 = .ok (.invokevirtual 171, 3) := by decide +kernel
theorem dX12_undo_30 : decode cX12_undo 30 = .ok (.aload_n 0, 1) := by decide +kernel
theorem dX12_undo_31 : decode cX12_undo 31 = .ok (.iload_n 1, 1) := by decide +kernel
theorem dX12_undo_32 : decode cX12_undo 32 = .ok (.iload_n 2, 1) := by decide +kernel
set_option maxRecDepth 20000 in
theorem ggX12_undo_X12_undoes : GoodIn wsX12_undo wsX12_undoes := goodIn_r _ [19, 4, 5, 20, 21, 22, 3, 23, 24, 25, 8, 26, 27, 28, 29, 30, 31, 32, 33, 34, 35, 36, 37, 38, 39, 40, 41, 42, 43, 44, 45, 46, 47, 48, 49, 50, 51, 52, 53, 54, 55, 56, 57, 58, 59, 60, 61, 62, 63, 64, 65, 73, 74, 75, 76, 77, 78, 79, 80, 81, 82, 83, 84, 85, 86, 87, 88, 89, 90, 91, 92, 93, 94, 95, 96, 97, 98, 99, 100, 101, 102, 103, 104, 105, 106, 107, 108, 109, 110, 111, 112] rfl (by decide +kernel)
set_option maxRecDepth 20000 in
theorem gX12_undo_X12_undoes : GoodIn wsX12_undo (wsV RX12 174 RX12 yX12_undoes wsX12_undoes) := goodIn_app (goodIn_r _ [16, 17, 18, 8] rfl (by decide +kernel)) ggX12_undo_X12_undoes
theorem dX12_undo_33 : decode cX12_undo 33 = .ok (.invokevirtual 174, 3) := by decide +kernel
theorem dX12_undo_36 : decode cX12_undo 36 = .ok (.ifCond .ne 13, 3) := by decide +kernel
theorem dX12_undo_49 : decode cX12_undo 49 = .ok (.aload_n 0, 1) := by decide +kernel
theorem dX12_undo_50 : decode cX12_undo 50 = .ok (.aload_n 0, 1) := by decide +kernel
theorem dX12_undo_51 : decode cX12_undo 51 = .ok (.getfield 64, 3) := by decide +kernel
theorem dX12_undo_54 : decode cX12_undo 54 = .ok (.aload_n 0, 1) := by decide +kernel
theorem dX12_undo_55 : decode cX12_undo 55 = .ok (.getfield 135, 3) := by decide +kernel
set_option maxRecDepth 20000 in
theorem ggX12_undo_X12_become : GoodIn wsX12_undo wsX12_become := goodIn_r _ [69, 70, 71, 14, 15, 72, 73, 74, 75, 76, 77, 78, 79, 80, 81, 82, 83, 84, 85, 86, 87, 88, 89, 90, 91, 92, 93, 94, 95, 96, 97, 98, 99, 100, 101, 102, 103, 104, 105, 106, 107, 108, 109, 110, 111, 112] rfl (by decide +kernel)
set_option maxRecDepth 20000 in
theorem gX12_undo_X12_become : GoodIn wsX12_undo (wsV RX12 154 RX12 yX12_become wsX12_become) := goodIn_app (goodIn_r _ [66, 67, 68, 8] rfl (by decide +kernel)) ggX12_undo_X12_become
theorem dX12_undo_58 : decode cX12_undo 58 = .ok (.invokevirtual 154, 3) := by decide +kernel
theorem dX12_undo_61 : decode cX12_undo 61 = .ok (.aload_n 0, 1) := by decide +kernel
theorem dX12_undo_62 : decode cX12_undo 62 = .ok (.getfield 135, 3) := by decide +kernel
theorem dX12_undo_65 : decode cX12_undo 65 = .ok (.ireturn, 1) := by decide +kernel
theorem dX12_undo_39 : decode cX12_undo 39 = .ok (.aload_n 0, 1) := by decide +kernel
theorem dX12_undo_40 : decode cX12_undo 40 = .ok (.aload_n 0, 1) := by decide +kernel
theorem dX12_undo_41 : decode cX12_undo 41 = .ok (.getfield 102, 3) := by decide +kernel
theorem dX12_undo_44 : decode cX12_undo 44 = .ok (.putfield 55, 3) := by decide +kernel
theorem dX12_undo_47 : decode cX12_undo 47 = .ok (.iconst (-1), 1) := by decide +kernel
theorem dX12_undo_48 : decode cX12_undo 48 = .ok (.ireturn, 1) := by decide +kernel
