theorem dX6_tryAsItIs_0 : decode cX6_tryAsItIs 0 = .ok (.iconst 0, 1) := by decide +kernel
theorem dX6_tryAsItIs_1 : decode cX6_tryAsItIs 1 = .ok (.istore 4, 2) := by decide +kernel
theorem dX6_tryAsItIs_3 : decode cX6_tryAsItIs 3 = .ok (.bipush 32, 2) := by decide +kernel
theorem dX6_tryAsItIs_5 : decode cX6_tryAsItIs 5 = .ok (.istore 5, 2) := by decide +kernel
theorem dX6_tryAsItIs_7 : decode cX6_tryAsItIs 7 = .ok (.iload_n 1, 1) := by decide +kernel
theorem dX6_tryAsItIs_8 : decode cX6_tryAsItIs 8 = .ok (.istore 6, 2) := by decide +kernel
theorem dX6_tryAsItIs_10 : decode cX6_tryAsItIs 10 = .ok (.iload 6, 2) := by decide +kernel
theorem dX6_tryAsItIs_12 : decode cX6_tryAsItIs 12 = .ok (.iload_n 3, 1) := by decide +kernel
theorem dX6_tryAsItIs_13 : decode cX6_tryAsItIs 13 = .ok (.if_icmp .ge 61, 3) := by decide +kernel
theorem dX6_tryAsItIs_74 : decode cX6_tryAsItIs 74 = .ok (.return_, 1) := by decide +kernel
theorem dX6_tryAsItIs_16 : decode cX6_tryAsItIs 16 = .ok (.aload_n 2, 1) := by decide +kernel
theorem dX6_tryAsItIs_17 : decode cX6_tryAsItIs 17 = .ok (.iload 6, 2) := by decide +kernel
set_option maxRecDepth 20000 in
theorem ggX6_tryAsItIs_X5_get : GoodIn wsX6_tryAsItIs wsX5_get := goodIn_r _ [6, 7, 8, 57, 58] rfl (by decide +kernel)
set_option maxRecDepth 20000 in
theorem gX6_tryAsItIs_X5_get : GoodIn wsX6_tryAsItIs (wsV RX6 85 RX5 yX5_get wsX5_get) := goodIn_app (goodIn_r _ [2, 3, 4, 5] rfl (by decide +kernel)) ggX6_tryAsItIs_X5_get
theorem dX6_tryAsItIs_19 : decode cX6_tryAsItIs 19 = .ok (.invokevirtual 85, 3) := by decide +kernel
theorem dX6_tryAsItIs_22 : decode cX6_tryAsItIs 22 = .ok (.istore 7, 2) := by decide +kernel
theorem dX6_tryAsItIs_24 : decode cX6_tryAsItIs 24 = .ok (.iload 4, 2) := by decide +kernel
theorem dX6_tryAsItIs_26 : decode cX6_tryAsItIs 26 = .ok (.aload_n 0, 1) := by decide +kernel
theorem dX6_tryAsItIs_27 : decode cX6_tryAsItIs 27 = .ok (.getfield 47, 3) := by decide +kernel
theorem dX6_tryAsItIs_30 : decode cX6_tryAsItIs 30 = .ok (.iload 5, 2) := by decide +kernel
theorem dX6_tryAsItIs_32 : decode cX6_tryAsItIs 32 = .ok (.iload 7, 2) := by decide +kernel
set_option maxRecDepth 20000 in
theorem ggX6_tryAsItIs_X3_of : GoodIn wsX6_tryAsItIs wsX3_of := goodIn_r _ [13, 14, 15, 16, 17, 18, 12, 19, 20, 21, 22, 23, 24, 25, 26, 27, 28, 29, 30, 59, 60, 61] rfl (by decide +kernel)
set_option maxRecDepth 20000 in
theorem gX6_tryAsItIs_X3_of : GoodIn wsX6_tryAsItIs (wsV RX6 89 RX3 yX3_of wsX3_of) := goodIn_app (goodIn_r _ [9, 10, 11, 12] rfl (by decide +kernel)) ggX6_tryAsItIs_X3_of
theorem dX6_tryAsItIs_34 : decode cX6_tryAsItIs 34 = .ok (.invokevirtual 89, 3) := by decide +kernel
theorem dX6_tryAsItIs_37 : decode cX6_tryAsItIs 37 = .ok (.iadd, 1) := by decide +kernel
theorem dX6_tryAsItIs_38 : decode cX6_tryAsItIs 38 = .ok (.istore 4, 2) := by decide +kernel
theorem dX6_tryAsItIs_40 : decode cX6_tryAsItIs 40 = .ok (.iload 7, 2) := by decide +kernel
theorem dX6_tryAsItIs_42 : decode cX6_tryAsItIs 42 = .ok (.istore 5, 2) := by decide +kernel
theorem dX6_tryAsItIs_44 : decode cX6_tryAsItIs 44 = .ok (.aload_n 0, 1) := by decide +kernel
theorem dX6_tryAsItIs_45 : decode cX6_tryAsItIs 45 = .ok (.iload_n 1, 1) := by decide +kernel
theorem dX6_tryAsItIs_46 : decode cX6_tryAsItIs 46 = .ok (.iload 6, 2) := by decide +kernel
theorem dX6_tryAsItIs_48 : decode cX6_tryAsItIs 48 = .ok (.iconst 1, 1) := by decide +kernel
theorem dX6_tryAsItIs_49 : decode cX6_tryAsItIs 49 = .ok (.iadd, 1) := by decide +kernel
theorem dX6_tryAsItIs_50 : decode cX6_tryAsItIs 50 = .ok (.iconst (-1), 1) := by decide +kernel
theorem dX6_tryAsItIs_51 : decode cX6_tryAsItIs 51 = .ok (.iload 4, 2) := by decide +kernel
theorem dX6_tryAsItIs_53 : decode cX6_tryAsItIs 53 = .ok (.aload_n 0, 1) := by decide +kernel
theorem dX6_tryAsItIs_54 : decode cX6_tryAsItIs 54 = .ok (.getfield 47, 3) := by decide +kernel
theorem dX6_tryAsItIs_57 : decode cX6_tryAsItIs 57 = .ok (.iload 7, 2) := by decide +kernel
theorem dX6_tryAsItIs_59 : decode cX6_tryAsItIs 59 = .ok (.bipush 32, 2) := by decide +kernel
theorem dX6_tryAsItIs_61 : decode cX6_tryAsItIs 61 = .ok (.invokevirtual 89, 3) := by decide +kernel
theorem dX6_tryAsItIs_64 : decode cX6_tryAsItIs 64 = .ok (.iadd, 1) := by decide +kernel
set_option maxRecDepth 20000 in
theorem ggX6_tryAsItIs_X6_offer : GoodIn wsX6_tryAsItIs wsX6_offer := goodIn_r _ [35, 36, 37, 38, 39, 40, 41, 42, 43, 34, 44, 45, 46, 47, 48, 49, 50, 51, 52, 53, 54, 55, 56] rfl (by decide +kernel)
set_option maxRecDepth 20000 in
theorem gX6_tryAsItIs_X6_offer : GoodIn wsX6_tryAsItIs (wsV RX6 94 RX6 yX6_offer wsX6_offer) := goodIn_app (goodIn_r _ [31, 32, 33, 34] rfl (by decide +kernel)) ggX6_tryAsItIs_X6_offer
theorem dX6_tryAsItIs_65 : decode cX6_tryAsItIs 65 = .ok (.invokevirtual 94, 3) := by decide +kernel
theorem dX6_tryAsItIs_68 : decode cX6_tryAsItIs 68 = .ok (.iinc 6 1, 3) := by decide +kernel
theorem dX6_tryAsItIs_71 : decode cX6_tryAsItIs 71 = .ok (.goto (-61), 3) := by decide +kernel
