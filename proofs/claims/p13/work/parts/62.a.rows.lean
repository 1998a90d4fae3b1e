theorem dX11_at_0 : decode cX11_at 0 = .ok (.iload_n 1, 1) := by decide +kernel
theorem dX11_at_1 : decode cX11_at 1 = .ok (.ifCond .lt 14, 3) := by decide +kernel
theorem dX11_at_15 : decode cX11_at 15 = .ok (.new 160, 3) := by decide +kernel
theorem dX11_at_18 : decode cX11_at 18 = .ok (.dup, 1) := by decide +kernel
theorem dX11_at_19 : decode cX11_at 19 = .ok (.ldc 162, 2) := by decide +kernel
theorem dX11_at_21 : decode cX11_at 21 = .ok (.invokespecial 164, 3) := by decide +kernel
theorem dX11_at_24 : decode cX11_at 24 = .ok (.athrow, 1) := by decide +kernel
theorem dX11_at_4 : decode cX11_at 4 = .ok (.iload_n 1, 1) := by decide +kernel
theorem dX11_at_5 : decode cX11_at 5 = .ok (.aload_n 0, 1) := by decide +kernel
theorem dX11_at_6 : decode cX11_at 6 = .ok (.getfield 34, 3) := by decide +kernel
set_option maxRecDepth 20000 in
theorem ggX11_at_X5_length : GoodIn wsX11_at2 wsX5_length := goodIn_r _ [8, 9, 27, 28] rfl (by decide +kernel)
set_option maxRecDepth 20000 in
theorem gX11_at_X5_length : GoodIn wsX11_at2 (wsV RX11 94 RX5 yX5_length wsX5_length) := goodIn_app (goodIn_r _ [4, 5, 6, 7] rfl (by decide +kernel)) ggX11_at_X5_length
theorem dX11_at_9 : decode cX11_at 9 = .ok (.invokevirtual 94, 3) := by decide +kernel
theorem dX11_at_12 : decode cX11_at 12 = .ok (.if_icmp .lt 13, 3) := by decide +kernel
theorem dX11_at_25 : decode cX11_at 25 = .ok (.aload_n 0, 1) := by decide +kernel
theorem dX11_at_26 : decode cX11_at 26 = .ok (.getfield 34, 3) := by decide +kernel
theorem dX11_at_29 : decode cX11_at 29 = .ok (.iload_n 1, 1) := by decide +kernel
set_option maxRecDepth 20000 in
theorem ggX11_at_X5_get : GoodIn wsX11_at2 wsX5_get := goodIn_r _ [13, 9, 14, 27, 28] rfl (by decide +kernel)
set_option maxRecDepth 20000 in
theorem gX11_at_X5_get : GoodIn wsX11_at2 (wsV RX11 167 RX5 yX5_get wsX5_get) := goodIn_app (goodIn_r _ [10, 11, 12, 7] rfl (by decide +kernel)) ggX11_at_X5_get
theorem dX11_at_30 : decode cX11_at 30 = .ok (.invokevirtual 167, 3) := by decide +kernel
theorem dX11_at_33 : decode cX11_at 33 = .ok (.ireturn, 1) := by decide +kernel
theorem dL_at_0 : decode cL_at 0 = .ok (.aload_n 2, 1) := by decide +kernel
theorem dL_at_1 : decode cL_at 1 = .ok (.iconst 0, 1) := by decide +kernel
theorem dL_at_2 : decode cL_at 2 = .ok (.aload_n 0, 1) := by decide +kernel
theorem dL_at_3 : decode cL_at 3 = .ok (.iload_n 1, 1) := by decide +kernel
set_option maxRecDepth 20000 in
theorem ggL_at_X11_at : GoodIn wsL_at2 wsX11_at2 := goodIn_ca (goodIn_r _ [6, 7, 8, 9, 10, 11, 12, 13, 14, 15, 16, 17, 18, 19, 20, 21, 22, 23, 24, 25, 26, 27, 28, 29, 30, 31, 32, 33, 34] rfl (by decide +kernel)) (goodIn_sub (fun _ h => List.mem_cons_of_mem _ (List.mem_append_right _ h)) (by decide +kernel))
set_option maxRecDepth 20000 in
theorem gL_at_X11_at : GoodIn wsL_at2 (wsV RL 7 RX11 yX11_at wsX11_at2) := goodIn_app (goodIn_r _ [2, 3, 4, 5] rfl (by decide +kernel)) ggL_at_X11_at
theorem dL_at_4 : decode cL_at 4 = .ok (.invokevirtual 7, 3) := by decide +kernel
theorem dL_at_12 : decode cL_at 12 = .ok (.astore_n 3, 1) := by decide +kernel
theorem dL_at_13 : decode cL_at 13 = .ok (.iconst 1, 1) := by decide +kernel
theorem dL_at_14 : decode cL_at 14 = .ok (.ireturn, 1) := by decide +kernel
theorem dL_at_7 : decode cL_at 7 = .ok (.i2l, 1) := by decide +kernel
theorem dL_at_8 : decode cL_at 8 = .ok (.lastore, 1) := by decide +kernel
theorem dL_at_9 : decode cL_at 9 = .ok (.goto 6, 3) := by decide +kernel
theorem dL_at_15 : decode cL_at 15 = .ok (.iconst 0, 1) := by decide +kernel
theorem dL_at_16 : decode cL_at 16 = .ok (.ireturn, 1) := by decide +kernel
