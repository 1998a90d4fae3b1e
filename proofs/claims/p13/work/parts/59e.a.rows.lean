theorem dX11_tapeHoldsBytes_0 : decode cX11_tapeHoldsBytes 0 = .ok (.iconst 0, 1) := by decide +kernel
theorem dX11_tapeHoldsBytes_1 : decode cX11_tapeHoldsBytes 1 = .ok (.istore_n 1, 1) := by decide +kernel
theorem dX11_tapeHoldsBytes_2 : decode cX11_tapeHoldsBytes 2 = .ok (.iload_n 1, 1) := by decide +kernel
theorem dX11_tapeHoldsBytes_3 : decode cX11_tapeHoldsBytes 3 = .ok (.aload_n 0, 1) := by decide +kernel
theorem dX11_tapeHoldsBytes_4 : decode cX11_tapeHoldsBytes 4 = .ok (.getfield 30, 3) := by decide +kernel
set_option maxRecDepth 20000 in
theorem ggX11_tapeHoldsBytes_X5_length : GoodIn wsX11_tapeHoldsBytes wsX5_length := goodIn_r _ [7, 8, 26, 27] rfl (by decide +kernel)
set_option maxRecDepth 20000 in
theorem gX11_tapeHoldsBytes_X5_length : GoodIn wsX11_tapeHoldsBytes (wsV RX11 94 RX5 yX5_length wsX5_length) := goodIn_app (goodIn_r _ [3, 4, 5, 6] rfl (by decide +kernel)) ggX11_tapeHoldsBytes_X5_length
theorem dX11_tapeHoldsBytes_7 : decode cX11_tapeHoldsBytes 7 = .ok (.invokevirtual 94, 3) := by decide +kernel
theorem dX11_tapeHoldsBytes_10 : decode cX11_tapeHoldsBytes 10 = .ok (.if_icmp .ge 36, 3) := by decide +kernel
theorem dX11_tapeHoldsBytes_46 : decode cX11_tapeHoldsBytes 46 = .ok (.iconst 1, 1) := by decide +kernel
theorem dX11_tapeHoldsBytes_47 : decode cX11_tapeHoldsBytes 47 = .ok (.ireturn, 1) := by decide +kernel
theorem dX11_tapeHoldsBytes_13 : decode cX11_tapeHoldsBytes 13 = .ok (.aload_n 0, 1) := by decide +kernel
theorem dX11_tapeHoldsBytes_14 : decode cX11_tapeHoldsBytes 14 = .ok (.getfield 30, 3) := by decide +kernel
theorem dX11_tapeHoldsBytes_17 : decode cX11_tapeHoldsBytes 17 = .ok (.iload_n 1, 1) := by decide +kernel
set_option maxRecDepth 20000 in
theorem ggX11_tapeHoldsBytes_X5_get : GoodIn wsX11_tapeHoldsBytes wsX5_get := goodIn_r _ [12, 8, 13, 26, 27] rfl (by decide +kernel)
set_option maxRecDepth 20000 in
theorem gX11_tapeHoldsBytes_X5_get : GoodIn wsX11_tapeHoldsBytes (wsV RX11 167 RX5 yX5_get wsX5_get) := goodIn_app (goodIn_r _ [9, 10, 11, 6] rfl (by decide +kernel)) ggX11_tapeHoldsBytes_X5_get
theorem dX11_tapeHoldsBytes_18 : decode cX11_tapeHoldsBytes 18 = .ok (.invokevirtual 167, 3) := by decide +kernel
theorem dX11_tapeHoldsBytes_21 : decode cX11_tapeHoldsBytes 21 = .ok (.istore_n 2, 1) := by decide +kernel
theorem dX11_tapeHoldsBytes_22 : decode cX11_tapeHoldsBytes 22 = .ok (.iload_n 2, 1) := by decide +kernel
theorem dX11_tapeHoldsBytes_23 : decode cX11_tapeHoldsBytes 23 = .ok (.ifCond .lt 10, 3) := by decide +kernel
theorem dX11_tapeHoldsBytes_33 : decode cX11_tapeHoldsBytes 33 = .ok (.aload_n 0, 1) := by decide +kernel
theorem dX11_tapeHoldsBytes_34 : decode cX11_tapeHoldsBytes 34 = .ok (.iload_n 1, 1) := by decide +kernel
theorem dX11_tapeHoldsBytes_35 : decode cX11_tapeHoldsBytes 35 = .ok (.putfield 90, 3) := by decide +kernel
theorem dX11_tapeHoldsBytes_38 : decode cX11_tapeHoldsBytes 38 = .ok (.iconst 0, 1) := by decide +kernel
theorem dX11_tapeHoldsBytes_39 : decode cX11_tapeHoldsBytes 39 = .ok (.ireturn, 1) := by decide +kernel
theorem dX11_tapeHoldsBytes_26 : decode cX11_tapeHoldsBytes 26 = .ok (.iload_n 2, 1) := by decide +kernel
theorem dX11_tapeHoldsBytes_27 : decode cX11_tapeHoldsBytes 27 = .ok (.sipush 256, 3) := by decide +kernel
theorem dX11_tapeHoldsBytes_30 : decode cX11_tapeHoldsBytes 30 = .ok (.if_icmp .lt 10, 3) := by decide +kernel
theorem dX11_tapeHoldsBytes_40 : decode cX11_tapeHoldsBytes 40 = .ok (.iinc 1 1, 3) := by decide +kernel
theorem dX11_tapeHoldsBytes_43 : decode cX11_tapeHoldsBytes 43 = .ok (.goto (-41), 3) := by decide +kernel
