theorem dX12_takeSpan_0 : decode cX12_takeSpan 0 = .ok (.aload_n 0, 1) := by decide +kernel
theorem dX12_takeSpan_1 : decode cX12_takeSpan 1 = .ok (.iload_n 2, 1) := by decide +kernel
theorem dX12_takeSpan_2 : decode cX12_takeSpan 2 = .ok (.iload_n 1, 1) := by decide +kernel
theorem dX12_takeSpan_3 : decode cX12_takeSpan 3 = .ok (.isub, 1) := by decide +kernel
theorem dX12_takeSpan_4 : decode cX12_takeSpan 4 = .ok (.putfield 135, 3) := by decide +kernel
theorem dX12_takeSpan_7 : decode cX12_takeSpan 7 = .ok (.iload_n 1, 1) := by decide +kernel
theorem dX12_takeSpan_8 : decode cX12_takeSpan 8 = .ok (.istore 4, 2) := by decide +kernel
theorem dX12_takeSpan_10 : decode cX12_takeSpan 10 = .ok (.iload 4, 2) := by decide +kernel
theorem dX12_takeSpan_12 : decode cX12_takeSpan 12 = .ok (.iload_n 2, 1) := by decide +kernel
theorem dX12_takeSpan_13 : decode cX12_takeSpan 13 = .ok (.if_icmp .ge 25, 3) := by decide +kernel
theorem dX12_takeSpan_38 : decode cX12_takeSpan 38 = .ok (.iload_n 3, 1) := by decide +kernel
theorem dX12_takeSpan_39 : decode cX12_takeSpan 39 = .ok (.iconst (-1), 1) := by decide +kernel
theorem dX12_takeSpan_40 : decode cX12_takeSpan 40 = .ok (.if_icmp .eq 22, 3) := by decide +kernel
theorem dX12_takeSpan_62 : decode cX12_takeSpan 62 = .ok (.iconst 1, 1) := by decide +kernel
theorem dX12_takeSpan_63 : decode cX12_takeSpan 63 = .ok (.goto 4, 3) := by decide +kernel
theorem dX12_takeSpan_67 : decode cX12_takeSpan 67 = .ok (.ireturn, 1) := by decide +kernel
theorem dX12_takeSpan_43 : decode cX12_takeSpan 43 = .ok (.aload_n 0, 1) := by decide +kernel
theorem dX12_takeSpan_44 : decode cX12_takeSpan 44 = .ok (.aload_n 0, 1) := by decide +kernel
theorem dX12_takeSpan_45 : decode cX12_takeSpan 45 = .ok (.getfield 30, 3) := by decide +kernel
theorem dX12_takeSpan_48 : decode cX12_takeSpan 48 = .ok (.iload_n 3, 1) := by decide +kernel
theorem dX12_takeSpan_49 : decode cX12_takeSpan 49 = .ok (.iaload, 1) := by decide +kernel
theorem dX12_takeSpan_50 : decode cX12_takeSpan 50 = .ok (.aload_n 0, 1) := by decide +kernel
theorem dX12_takeSpan_51 : decode cX12_takeSpan 51 = .ok (.getfield 33, 3) := by decide +kernel
theorem dX12_takeSpan_54 : decode cX12_takeSpan 54 = .ok (.iload_n 3, 1) := by decide +kernel
theorem dX12_takeSpan_55 : decode cX12_takeSpan 55 = .ok (.iaload, 1) := by decide +kernel
set_option maxRecDepth 20000 in
theorem ggX12_takeSpan_X12_undoes : GoodIn wsX12_takeSpan wsX12_undoes := goodIn_r _ [10, 2, 1, 11, 12, 13, 14, 15, 16, 17, 9, 18, 19, 20, 21, 22, 23, 24, 25, 26, 27, 28, 29, 30, 31, 32, 33, 34, 35, 36, 37, 38, 39, 40, 41, 42, 43, 44, 45, 46, 47, 48, 49, 50, 51, 52, 53, 54, 55, 56, 57, 58, 59, 60, 61, 62, 63, 64, 65, 66, 67, 68, 69, 70, 71, 72, 73, 74, 75, 76, 77, 78, 79, 80, 81, 82, 83, 84, 85, 86, 87, 88, 89, 90, 91, 92, 93, 94, 95, 96, 97] rfl (by decide +kernel)
set_option maxRecDepth 20000 in
theorem gX12_takeSpan_X12_undoes : GoodIn wsX12_takeSpan (wsV RX12 174 RX12 yX12_undoes wsX12_undoes) := goodIn_app (goodIn_r _ [6, 7, 8, 9] rfl (by decide +kernel)) ggX12_takeSpan_X12_undoes
theorem dX12_takeSpan_56 : decode cX12_takeSpan 56 = .ok (.invokevirtual 174, 3) := by decide +kernel
theorem dX12_takeSpan_59 : decode cX12_takeSpan 59 = .ok (.ifCond .eq 7, 3) := by decide +kernel
theorem dX12_takeSpan_66 : decode cX12_takeSpan 66 = .ok (.iconst 0, 1) := by decide +kernel
theorem dX12_takeSpan_16 : decode cX12_takeSpan 16 = .ok (.aload_n 0, 1) := by decide +kernel
theorem dX12_takeSpan_17 : decode cX12_takeSpan 17 = .ok (.getfield 64, 3) := by decide +kernel
theorem dX12_takeSpan_20 : decode cX12_takeSpan 20 = .ok (.iload 4, 2) := by decide +kernel
theorem dX12_takeSpan_22 : decode cX12_takeSpan 22 = .ok (.iload_n 1, 1) := by decide +kernel
theorem dX12_takeSpan_23 : decode cX12_takeSpan 23 = .ok (.isub, 1) := by decide +kernel
theorem dX12_takeSpan_24 : decode cX12_takeSpan 24 = .ok (.aload_n 0, 1) := by decide +kernel
theorem dX12_takeSpan_25 : decode cX12_takeSpan 25 = .ok (.getfield 16, 3) := by decide +kernel
theorem dX12_takeSpan_28 : decode cX12_takeSpan 28 = .ok (.iload 4, 2) := by decide +kernel
theorem dX12_takeSpan_30 : decode cX12_takeSpan 30 = .ok (.iaload, 1) := by decide +kernel
theorem dX12_takeSpan_31 : decode cX12_takeSpan 31 = .ok (.iastore, 1) := by decide +kernel
theorem dX12_takeSpan_32 : decode cX12_takeSpan 32 = .ok (.iinc 4 1, 3) := by decide +kernel
theorem dX12_takeSpan_35 : decode cX12_takeSpan 35 = .ok (.goto (-25), 3) := by decide +kernel
