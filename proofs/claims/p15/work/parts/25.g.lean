/-! 52.a.rows -/
section
set_option maxRecDepth 100000 in
theorem dA168_cX12_end : kDec cX12_end [(0, .aload_n 0, 1), (1, .iconst 0, 1), (2, .putfield 85, 3), (5, .iload_n 1, 1), (6, .ifCond .lt 11, 3), (17, .iconst 0, 1), (18, .ireturn, 1), (9, .iload_n 1, 1), (10, .aload_n 0, 1), (11, .getfield 151, 3), (14, .if_icmp .le 5, 3), (19, .aload_n 0, 1), (20, .iload_n 1, 1), (21, .putfield 151, 3), (24, .iconst 1, 1), (25, .ireturn, 1)] = true := by decide +kernel
theorem dX12_end_0 : decode cX12_end 0 = .ok (.aload_n 0, 1) := kDec_at dA168_cX12_end 0 rfl
theorem dX12_end_1 : decode cX12_end 1 = .ok (.iconst 0, 1) := kDec_at dA168_cX12_end 1 rfl
theorem dX12_end_2 : decode cX12_end 2 = .ok (.putfield 85, 3) := kDec_at dA168_cX12_end 2 rfl
theorem dX12_end_5 : decode cX12_end 5 = .ok (.iload_n 1, 1) := kDec_at dA168_cX12_end 3 rfl
theorem dX12_end_6 : decode cX12_end 6 = .ok (.ifCond .lt 11, 3) := kDec_at dA168_cX12_end 4 rfl
theorem dX12_end_17 : decode cX12_end 17 = .ok (.iconst 0, 1) := kDec_at dA168_cX12_end 5 rfl
theorem dX12_end_18 : decode cX12_end 18 = .ok (.ireturn, 1) := kDec_at dA168_cX12_end 6 rfl
theorem dX12_end_9 : decode cX12_end 9 = .ok (.iload_n 1, 1) := kDec_at dA168_cX12_end 7 rfl
theorem dX12_end_10 : decode cX12_end 10 = .ok (.aload_n 0, 1) := kDec_at dA168_cX12_end 8 rfl
theorem dX12_end_11 : decode cX12_end 11 = .ok (.getfield 151, 3) := kDec_at dA168_cX12_end 9 rfl
theorem dX12_end_14 : decode cX12_end 14 = .ok (.if_icmp .le 5, 3) := kDec_at dA168_cX12_end 10 rfl
theorem dX12_end_19 : decode cX12_end 19 = .ok (.aload_n 0, 1) := kDec_at dA168_cX12_end 11 rfl
theorem dX12_end_20 : decode cX12_end 20 = .ok (.iload_n 1, 1) := kDec_at dA168_cX12_end 12 rfl
theorem dX12_end_21 : decode cX12_end 21 = .ok (.putfield 151, 3) := kDec_at dA168_cX12_end 13 rfl
theorem dX12_end_24 : decode cX12_end 24 = .ok (.iconst 1, 1) := kDec_at dA168_cX12_end 14 rfl
theorem dX12_end_25 : decode cX12_end 25 = .ok (.ireturn, 1) := kDec_at dA168_cX12_end 15 rfl
set_option maxRecDepth 100000 in
theorem dA169_cX12_marksOf : kDec cX12_marksOf [(0, .iconst 0, 1), (1, .istore_n 1, 1), (2, .iconst 0, 1), (3, .istore_n 2, 1), (4, .iload_n 2, 1), (5, .aload_n 0, 1), (6, .getfield 13, 3), (9, .iconst 0, 1), (10, .iaload, 1), (11, .if_icmp .ge 23, 3), (34, .iload_n 1, 1), (35, .ireturn, 1), (14, .aload_n 0, 1), (15, .getfield 16, 3), (18, .iload_n 2, 1), (19, .iaload, 1), (20, .ldc 126, 2), (22, .if_icmp .ne 6, 3), (28, .iinc 2 1, 3), (31, .goto (-27), 3), (25, .iinc 1 1, 3)] = true := by decide +kernel
theorem dX12_marksOf_0 : decode cX12_marksOf 0 = .ok (.iconst 0, 1) := kDec_at dA169_cX12_marksOf 0 rfl
theorem dX12_marksOf_1 : decode cX12_marksOf 1 = .ok (.istore_n 1, 1) := kDec_at dA169_cX12_marksOf 1 rfl
theorem dX12_marksOf_2 : decode cX12_marksOf 2 = .ok (.iconst 0, 1) := kDec_at dA169_cX12_marksOf 2 rfl
theorem dX12_marksOf_3 : decode cX12_marksOf 3 = .ok (.istore_n 2, 1) := kDec_at dA169_cX12_marksOf 3 rfl
theorem dX12_marksOf_4 : decode cX12_marksOf 4 = .ok (.iload_n 2, 1) := kDec_at dA169_cX12_marksOf 4 rfl
theorem dX12_marksOf_5 : decode cX12_marksOf 5 = .ok (.aload_n 0, 1) := kDec_at dA169_cX12_marksOf 5 rfl
theorem dX12_marksOf_6 : decode cX12_marksOf 6 = .ok (.getfield 13, 3) := kDec_at dA169_cX12_marksOf 6 rfl
theorem dX12_marksOf_9 : decode cX12_marksOf 9 = .ok (.iconst 0, 1) := kDec_at dA169_cX12_marksOf 7 rfl
theorem dX12_marksOf_10 : decode cX12_marksOf 10 = .ok (.iaload, 1) := kDec_at dA169_cX12_marksOf 8 rfl
theorem dX12_marksOf_11 : decode cX12_marksOf 11 = .ok (.if_icmp .ge 23, 3) := kDec_at dA169_cX12_marksOf 9 rfl
theorem dX12_marksOf_34 : decode cX12_marksOf 34 = .ok (.iload_n 1, 1) := kDec_at dA169_cX12_marksOf 10 rfl
theorem dX12_marksOf_35 : decode cX12_marksOf 35 = .ok (.ireturn, 1) := kDec_at dA169_cX12_marksOf 11 rfl
theorem dX12_marksOf_14 : decode cX12_marksOf 14 = .ok (.aload_n 0, 1) := kDec_at dA169_cX12_marksOf 12 rfl
theorem dX12_marksOf_15 : decode cX12_marksOf 15 = .ok (.getfield 16, 3) := kDec_at dA169_cX12_marksOf 13 rfl
theorem dX12_marksOf_18 : decode cX12_marksOf 18 = .ok (.iload_n 2, 1) := kDec_at dA169_cX12_marksOf 14 rfl
theorem dX12_marksOf_19 : decode cX12_marksOf 19 = .ok (.iaload, 1) := kDec_at dA169_cX12_marksOf 15 rfl
theorem dX12_marksOf_20 : decode cX12_marksOf 20 = .ok (.ldc 126, 2) := kDec_at dA169_cX12_marksOf 16 rfl
theorem dX12_marksOf_22 : decode cX12_marksOf 22 = .ok (.if_icmp .ne 6, 3) := kDec_at dA169_cX12_marksOf 17 rfl
theorem dX12_marksOf_28 : decode cX12_marksOf 28 = .ok (.iinc 2 1, 3) := kDec_at dA169_cX12_marksOf 18 rfl
theorem dX12_marksOf_31 : decode cX12_marksOf 31 = .ok (.goto (-27), 3) := kDec_at dA169_cX12_marksOf 19 rfl
theorem dX12_marksOf_25 : decode cX12_marksOf 25 = .ok (.iinc 1 1, 3) := kDec_at dA169_cX12_marksOf 20 rfl
set_option maxRecDepth 100000 in
theorem dA170_cX12_count : kDec cX12_count [(0, .aload_n 0, 1), (1, .iconst 0, 1), (2, .putfield 85, 3), (5, .iload_n 1, 1), (6, .tableswitch 92 0 7 #[46, 53, 58, 63, 68, 73, 78, 85], 46), (52, .aload_n 0, 1), (53, .getfield 13, 3), (56, .iconst 0, 1), (57, .iaload, 1), (58, .ireturn, 1), (59, .aload_n 0, 1), (60, .getfield 151, 3), (63, .ireturn, 1), (64, .aload_n 0, 1), (65, .getfield 161, 3), (68, .ireturn, 1), (69, .aload_n 0, 1), (70, .getfield 142, 3), (73, .ireturn, 1), (74, .aload_n 0, 1), (75, .invokevirtual 164, 3), (78, .ireturn, 1), (79, .aload_n 0, 1), (80, .getfield 168, 3)] = true := by decide +kernel
theorem dX12_count_0 : decode cX12_count 0 = .ok (.aload_n 0, 1) := kDec_at dA170_cX12_count 0 rfl
theorem dX12_count_1 : decode cX12_count 1 = .ok (.iconst 0, 1) := kDec_at dA170_cX12_count 1 rfl
theorem dX12_count_2 : decode cX12_count 2 = .ok (.putfield 85, 3) := kDec_at dA170_cX12_count 2 rfl
theorem dX12_count_5 : decode cX12_count 5 = .ok (.iload_n 1, 1) := kDec_at dA170_cX12_count 3 rfl
theorem dX12_count_6 : decode cX12_count 6 = .ok (.tableswitch 92 0 7 #[46, 53, 58, 63, 68, 73, 78, 85], 46) := kDec_at dA170_cX12_count 4 rfl
theorem dX12_count_52 : decode cX12_count 52 = .ok (.aload_n 0, 1) := kDec_at dA170_cX12_count 5 rfl
theorem dX12_count_53 : decode cX12_count 53 = .ok (.getfield 13, 3) := kDec_at dA170_cX12_count 6 rfl
theorem dX12_count_56 : decode cX12_count 56 = .ok (.iconst 0, 1) := kDec_at dA170_cX12_count 7 rfl
theorem dX12_count_57 : decode cX12_count 57 = .ok (.iaload, 1) := kDec_at dA170_cX12_count 8 rfl
theorem dX12_count_58 : decode cX12_count 58 = .ok (.ireturn, 1) := kDec_at dA170_cX12_count 9 rfl
theorem dX12_count_59 : decode cX12_count 59 = .ok (.aload_n 0, 1) := kDec_at dA170_cX12_count 10 rfl
theorem dX12_count_60 : decode cX12_count 60 = .ok (.getfield 151, 3) := kDec_at dA170_cX12_count 11 rfl
theorem dX12_count_63 : decode cX12_count 63 = .ok (.ireturn, 1) := kDec_at dA170_cX12_count 12 rfl
theorem dX12_count_64 : decode cX12_count 64 = .ok (.aload_n 0, 1) := kDec_at dA170_cX12_count 13 rfl
theorem dX12_count_65 : decode cX12_count 65 = .ok (.getfield 161, 3) := kDec_at dA170_cX12_count 14 rfl
theorem dX12_count_68 : decode cX12_count 68 = .ok (.ireturn, 1) := kDec_at dA170_cX12_count 15 rfl
theorem dX12_count_69 : decode cX12_count 69 = .ok (.aload_n 0, 1) := kDec_at dA170_cX12_count 16 rfl
theorem dX12_count_70 : decode cX12_count 70 = .ok (.getfield 142, 3) := kDec_at dA170_cX12_count 17 rfl
theorem dX12_count_73 : decode cX12_count 73 = .ok (.ireturn, 1) := kDec_at dA170_cX12_count 18 rfl
theorem dX12_count_74 : decode cX12_count 74 = .ok (.aload_n 0, 1) := kDec_at dA170_cX12_count 19 rfl
theorem dX12_count_75 : decode cX12_count 75 = .ok (.invokevirtual 164, 3) := kDec_at dA170_cX12_count 20 rfl
theorem dX12_count_78 : decode cX12_count 78 = .ok (.ireturn, 1) := kDec_at dA170_cX12_count 21 rfl
theorem dX12_count_79 : decode cX12_count 79 = .ok (.aload_n 0, 1) := kDec_at dA170_cX12_count 22 rfl
theorem dX12_count_80 : decode cX12_count 80 = .ok (.getfield 168, 3) := kDec_at dA170_cX12_count 23 rfl
set_option maxRecDepth 20000 in
theorem ggX12_count_X12_marksOf : GoodIn wsX12_count wsX12_marksOf := goodIn_r _ [12, 2, 13, 14, 15, 16, 17, 18, 19, 20, 21, 22, 23, 24, 25, 26, 27, 28, 29, 30, 31, 32, 33, 34, 35, 36, 37, 38, 39, 40, 41, 42, 43, 44, 45, 46, 47, 48, 49, 50, 51, 52, 53, 54] rfl (by decide +kernel)
set_option maxRecDepth 20000 in
theorem gX12_count_X12_marksOf : GoodIn wsX12_count (wsV RX12 164 RX12 yX12_marksOf wsX12_marksOf) := goodIn_app (goodIn_r _ [8, 9, 10, 11] rfl (by decide +kernel)) ggX12_count_X12_marksOf
set_option maxRecDepth 100000 in
theorem dA171_cX12_count : kDec cX12_count [(83, .ireturn, 1), (84, .aload_n 0, 1), (85, .getfield 27, 3), (88, .iconst 0, 1), (89, .iaload, 1), (90, .ireturn, 1), (91, .aload_n 0, 1), (92, .getfield 27, 3), (95, .iconst 1, 1), (96, .iaload, 1), (97, .ireturn, 1), (98, .iconst (-1), 1), (99, .ireturn, 1)] = true := by decide +kernel
theorem dX12_count_83 : decode cX12_count 83 = .ok (.ireturn, 1) := kDec_at dA171_cX12_count 0 rfl
theorem dX12_count_84 : decode cX12_count 84 = .ok (.aload_n 0, 1) := kDec_at dA171_cX12_count 1 rfl
theorem dX12_count_85 : decode cX12_count 85 = .ok (.getfield 27, 3) := kDec_at dA171_cX12_count 2 rfl
theorem dX12_count_88 : decode cX12_count 88 = .ok (.iconst 0, 1) := kDec_at dA171_cX12_count 3 rfl
theorem dX12_count_89 : decode cX12_count 89 = .ok (.iaload, 1) := kDec_at dA171_cX12_count 4 rfl
theorem dX12_count_90 : decode cX12_count 90 = .ok (.ireturn, 1) := kDec_at dA171_cX12_count 5 rfl
theorem dX12_count_91 : decode cX12_count 91 = .ok (.aload_n 0, 1) := kDec_at dA171_cX12_count 6 rfl
theorem dX12_count_92 : decode cX12_count 92 = .ok (.getfield 27, 3) := kDec_at dA171_cX12_count 7 rfl
theorem dX12_count_95 : decode cX12_count 95 = .ok (.iconst 1, 1) := kDec_at dA171_cX12_count 8 rfl
theorem dX12_count_96 : decode cX12_count 96 = .ok (.iaload, 1) := kDec_at dA171_cX12_count 9 rfl
theorem dX12_count_97 : decode cX12_count 97 = .ok (.ireturn, 1) := kDec_at dA171_cX12_count 10 rfl
theorem dX12_count_98 : decode cX12_count 98 = .ok (.iconst (-1), 1) := kDec_at dA171_cX12_count 11 rfl
theorem dX12_count_99 : decode cX12_count 99 = .ok (.ireturn, 1) := kDec_at dA171_cX12_count 12 rfl
set_option maxRecDepth 100000 in
theorem dA172_cX12_at : kDec cX12_at [(0, .aload_n 0, 1), (1, .iconst 0, 1), (2, .putfield 85, 3), (5, .iload_n 1, 1), (6, .ifCond .lt 13, 3), (19, .aload_n 0, 1), (20, .iconst 1, 1), (21, .putfield 85, 3), (24, .iconst 0, 1), (25, .ireturn, 1), (9, .iload_n 1, 1), (10, .aload_n 0, 1), (11, .getfield 13, 3), (14, .iconst 0, 1), (15, .iaload, 1), (16, .if_icmp .lt 10, 3), (26, .aload_n 0, 1), (27, .getfield 16, 3), (30, .iload_n 1, 1), (31, .iaload, 1), (32, .ireturn, 1)] = true := by decide +kernel
theorem dX12_at_0 : decode cX12_at 0 = .ok (.aload_n 0, 1) := kDec_at dA172_cX12_at 0 rfl
theorem dX12_at_1 : decode cX12_at 1 = .ok (.iconst 0, 1) := kDec_at dA172_cX12_at 1 rfl
theorem dX12_at_2 : decode cX12_at 2 = .ok (.putfield 85, 3) := kDec_at dA172_cX12_at 2 rfl
theorem dX12_at_5 : decode cX12_at 5 = .ok (.iload_n 1, 1) := kDec_at dA172_cX12_at 3 rfl
theorem dX12_at_6 : decode cX12_at 6 = .ok (.ifCond .lt 13, 3) := kDec_at dA172_cX12_at 4 rfl
theorem dX12_at_19 : decode cX12_at 19 = .ok (.aload_n 0, 1) := kDec_at dA172_cX12_at 5 rfl
theorem dX12_at_20 : decode cX12_at 20 = .ok (.iconst 1, 1) := kDec_at dA172_cX12_at 6 rfl
theorem dX12_at_21 : decode cX12_at 21 = .ok (.putfield 85, 3) := kDec_at dA172_cX12_at 7 rfl
theorem dX12_at_24 : decode cX12_at 24 = .ok (.iconst 0, 1) := kDec_at dA172_cX12_at 8 rfl
theorem dX12_at_25 : decode cX12_at 25 = .ok (.ireturn, 1) := kDec_at dA172_cX12_at 9 rfl
theorem dX12_at_9 : decode cX12_at 9 = .ok (.iload_n 1, 1) := kDec_at dA172_cX12_at 10 rfl
theorem dX12_at_10 : decode cX12_at 10 = .ok (.aload_n 0, 1) := kDec_at dA172_cX12_at 11 rfl
theorem dX12_at_11 : decode cX12_at 11 = .ok (.getfield 13, 3) := kDec_at dA172_cX12_at 12 rfl
theorem dX12_at_14 : decode cX12_at 14 = .ok (.iconst 0, 1) := kDec_at dA172_cX12_at 13 rfl
theorem dX12_at_15 : decode cX12_at 15 = .ok (.iaload, 1) := kDec_at dA172_cX12_at 14 rfl
theorem dX12_at_16 : decode cX12_at 16 = .ok (.if_icmp .lt 10, 3) := kDec_at dA172_cX12_at 15 rfl
theorem dX12_at_26 : decode cX12_at 26 = .ok (.aload_n 0, 1) := kDec_at dA172_cX12_at 16 rfl
theorem dX12_at_27 : decode cX12_at 27 = .ok (.getfield 16, 3) := kDec_at dA172_cX12_at 17 rfl
theorem dX12_at_30 : decode cX12_at 30 = .ok (.iload_n 1, 1) := kDec_at dA172_cX12_at 18 rfl
theorem dX12_at_31 : decode cX12_at 31 = .ok (.iaload, 1) := kDec_at dA172_cX12_at 19 rfl
theorem dX12_at_32 : decode cX12_at 32 = .ok (.ireturn, 1) := kDec_at dA172_cX12_at 20 rfl
set_option maxRecDepth 100000 in
theorem dA173_cX12_where : kDec cX12_where [(0, .aload_n 0, 1), (1, .iconst 0, 1), (2, .putfield 85, 3), (5, .aload_n 0, 1), (6, .getfield 55, 3), (9, .ireturn, 1)] = true := by decide +kernel
theorem dX12_where_0 : decode cX12_where 0 = .ok (.aload_n 0, 1) := kDec_at dA173_cX12_where 0 rfl
theorem dX12_where_1 : decode cX12_where 1 = .ok (.iconst 0, 1) := kDec_at dA173_cX12_where 1 rfl
theorem dX12_where_2 : decode cX12_where 2 = .ok (.putfield 85, 3) := kDec_at dA173_cX12_where 2 rfl
theorem dX12_where_5 : decode cX12_where 5 = .ok (.aload_n 0, 1) := kDec_at dA173_cX12_where 3 rfl
theorem dX12_where_6 : decode cX12_where 6 = .ok (.getfield 55, 3) := kDec_at dA173_cX12_where 4 rfl
theorem dX12_where_9 : decode cX12_where 9 = .ok (.ireturn, 1) := kDec_at dA173_cX12_where 5 rfl

end

/-! 52.ref -/
section
theorem mkN_eq {n n' m : Int} {f : Nat → Int32} (h : mkN n m f) (e : n = n') : mkN n' m f := by rw [← e]; exact h
theorem mkN_eq2 {n m m' : Int} {f : Nat → Int32} (h : mkN n m f) (e : m = m') : mkN n m' f := by rw [← e]; exact h
theorem pHx_eq {c k k' mk : Int} {f : Nat → Int32} (h : pHx c k mk f) (e : k' = k) : pHx c k' mk f := by rw [e]; exact h

set_option maxHeartbeats 40000000 in
set_option maxRecDepth 100000 in
theorem y_end (l : Launch) (dC : Nat → ClassId) (dI : Nat → Nat → Nat) (cI cS : ClassId) (sz : Nat) (oM : Nat) (mT : Nat) (mS : Nat) (mX : Nat) (mL : Nat) (mB : Nat) (mD : Nat) (m1 : Nat) (m2 : Nat) (mR : Nat) (x1 : Nat) (x2 : Nat) (x3 : Nat) (mH : Nat) (mY : Nat) (mE : Nat) (mW : Nat) (mO : Nat) (y1 : Nat) (y2 : Nat) (y3 : Nat) (y4 : Nat) (mZ : Nat) (zt : Int32) (zp : Int32) (zf : Int32) (zh : Int32) (zr : Int32) (zc : Int32) (zy : Int32) (za : Int32) (zb : Int32) (zs : Int32) (zq : Int32) (zw : Int32) (ze : Int32) (zn : Int32) (zm : Int32) (zl : Int32) (zk : Int32) (zd : Int32) (n : Int32) (g_zt : 0 ≤ zt.toInt ∧ zt.toInt ≤ 900) (g_zp : 0 ≤ zp.toInt ∧ zp.toInt ≤ 20) (g_zf : 0 ≤ zf.toInt ∧ zf.toInt ≤ 19) (g_zh : 0 ≤ zh.toInt ∧ zh.toInt ≤ 6) (g_zr : 0 ≤ zr.toInt ∧ zr.toInt ≤ 258) (g_zc : 0 ≤ zc.toInt ∧ zc.toInt ≤ 300) (g_zy : 0 ≤ zy.toInt ∧ zy.toInt ≤ 65536) (g_za : 0 ≤ za.toInt ∧ za.toInt ≤ 5) (g_zb : 0 ≤ zb.toInt ∧ zb.toInt ≤ 5) (g_zs : 0 ≤ zs.toInt ∧ zs.toInt ≤ 2000000) (g_zq : -1 ≤ zq.toInt ∧ zq.toInt ≤ 2000000) (g_zn : 0 ≤ zn.toInt ∧ zn.toInt ≤ 2600) (g_zm : 0 ≤ zm.toInt ∧ zm.toInt ≤ 2600) (g_zk : 0 ≤ zk.toInt ∧ zk.toInt ≤ 300) (hzs : zs.toInt ≤ 1000000) : kMi l yX12_end wsX12_end ({ frames := 0, cells := 0, slots := 0, locals := 0 } : Room) [.ref oM, .int n] sz (dC, dI) vwCl [(cI, .int), (cS, .short)] [(oM, .inr (12, [.ref mT, .int zt, .ref mS, .ref mX, .int zp, .int zf, .ref mL, .ref mB, .ref mD, .ref m1, .ref m2, .int zh, .ref mR, .int zr, .ref x1, .ref x2, .ref x3, .int zc, .ref mH, .int zy, .int za, .int zb, .int zs, .int zq, .int zw, .int ze, .ref mY, .int zn, .ref mE, .int zm, .int zl, .ref mW, .int zk, .ref mO, .int zd, .ref y1, .ref y2, .ref y3, .ref y4, .ref mZ]))] (fun _ => True) 0 0 (fun (A : Nat → Prop) (r : Int32) (hh9 : Heap) => ∃ (ze' : Int32) (zt' : Int32), kPD (dC, dI) vwCl A [(oM, .inr (12, [.ref mT, .int zt', .ref mS, .ref mX, .int zp, .int zf, .ref mL, .ref mB, .ref mD, .ref m1, .ref m2, .int zh, .ref mR, .int zr, .ref x1, .ref x2, .ref x3, .int zc, .ref mH, .int zy, .int za, .int zb, .int zs, .int zq, .int zw, .int ze', .ref mY, .int zn, .ref mE, .int zm, .int zl, .ref mW, .int zk, .ref mO, .int zd, .ref y1, .ref y2, .ref y3, .ref y4, .ref mZ]))] hh9 ∧ (0 ≤ zt'.toInt ∧ zt'.toInt ≤ 900) ∧ ((r.toInt = 1 ∧ 0 ≤ n.toInt ∧ n.toInt ≤ zt.toInt ∧ zt'.toInt = n.toInt) ∨ (r.toInt = 0 ∧ (n.toInt < 0 ∨ zt.toInt < n.toInt) ∧ zt'.toInt = zt.toInt))) := by
  refine kMi_of (cc := cX12_end) (maxL := 2) (ret := (some .boolean)) (lv := [(0, .ref oM), (1, .int n)]) (by decide +kernel) rfl rfl (Nat.le_of_ble_eq_true rfl) ?_
  intro p e s m below meth c A QQ ls hx hb hr hts hml hown hlocks hA hQQ hK hX hP hD hS hl
  have hown : s.vm.findClass RX12 = some m.cls := hown
  have hcf := k_cf hx hb hml hown hts
  have in_X12 : ∀ w ∈ wsX120, w ∈ wsX12_end := fun _ h => List.mem_cons_of_mem _ (List.mem_append_right _ (h))
  replace g_zp := hid g_zp
  replace g_zf := hid g_zf
  replace g_zh := hid g_zh
  replace g_zr := hid g_zr
  replace g_zc := hid g_zc
  replace g_zy := hid g_zy
  replace g_za := hid g_za
  replace g_zb := hid g_zb
  replace g_zs := hid g_zs
  replace g_zq := hid g_zq
  replace g_zn := hid g_zn
  replace g_zm := hid g_zm
  replace g_zk := hid g_zk
  refine lv_aload_n hx hb dX12_end_0 rfl (lv_at hl 0 rfl) ?_
  refine lv_iconst (v := 0) hx hb dX12_end_1 (by decide) ?_
  refine va_put (D := (dC, dI)) (ci := 12) (v := .int 0) (ty := .int) (C := RX12) (T := TX12) (N := 40) hx hb hts in_X12 tyX12 tyX12_ok nmX12 hown hK hP hD hS 0 rfl rfl 25 (by decide) (hts (.fieldLink RX12 85 "TextMenderModel" "thrown" "I") (List.mem_of_getElem? (i := 1) rfl)) (fun _ h9 => h9) rfl (by decide +kernel) rfl rfl (Nat.le_of_ble_eq_true rfl) dX12_end_2 (kW (wn := [(oM, .inr (12, [.ref mT, .int zt, .ref mS, .ref mX, .int zp, .int zf, .ref mL, .ref mB, .ref mD, .ref m1, .ref m2, .int zh, .ref mR, .int zr, .ref x1, .ref x2, .ref x3, .int zc, .ref mH, .int zy, .int za, .int zb, .int zs, .int zq, .int zw, .int 0, .ref mY, .int zn, .ref mE, .int zm, .int zl, .ref mW, .int zk, .ref mO, .int zd, .ref y1, .ref y2, .ref y3, .ref y4, .ref mZ]))]) rfl (fun H locs hPn hDn hSn => ?_))
  clear hP hD hS
  have hP := hPn
  have hD := hDn
  have hS := hSn
  clear hPn hDn hSn
  refine lv_iload_n hx hb dX12_end_5 rfl (lv_at hl 1 rfl) ?_
  refine lv_if_lt (tgt := 17) hx hb dX12_end_6 (by decide) (fun c_1 => ?_) (fun c_1 => ?_)
  · have tc_1 : n.toInt < 0 := v_lt c_1
    refine lv_iconst (v := 0) hx hb dX12_end_17 (by decide) ?_
    exact kl_z (v := 0) hQQ hx hb hr hlocks hS dX12_end_18 (rfl) ⟨0, zt, ⟨hP, hD⟩, g_zt, by show (0 = 1 ∧ 0 ≤ n.toInt ∧ n.toInt ≤ zt.toInt ∧ zt.toInt = n.toInt) ∨ (0 = 0 ∧ (n.toInt < 0 ∨ zt.toInt < n.toInt) ∧ zt.toInt = zt.toInt); omega⟩
  · have tc_1 : 0 ≤ n.toInt := v_nlt c_1
    refine lv_iload_n hx hb dX12_end_9 rfl (lv_at hl 1 rfl) ?_
    refine lv_aload_n hx hb dX12_end_10 rfl (lv_at hl 0 rfl) ?_
    refine va_get (D := (dC, dI)) (ci := 12) (v := .int zt) (C := RX12) (T := TX12) (N := 40) hx hb hts in_X12 hown hK hP 0 rfl rfl 1 (by decide) (hts (.fieldLink RX12 151 "TextMenderModel" "taped" "I") (List.mem_of_getElem? (i := 2) rfl)) (fun _ h9 => h9) rfl dX12_end_11 ?_
    refine lv_icmp_le (tgt := 19) hx hb dX12_end_14 (by decide) (fun c_2 => ?_) (fun c_2 => ?_)
    · have tc_2 : n.toInt ≤ zt.toInt := v_le c_2
      have rw2_0 := v_rng n
      refine lv_aload_n hx hb dX12_end_19 rfl (lv_at hl 0 rfl) ?_
      refine lv_iload_n hx hb dX12_end_20 rfl (lv_at hl 1 rfl) ?_
      refine va_put (D := (dC, dI)) (ci := 12) (v := .int n) (ty := .int) (C := RX12) (T := TX12) (N := 40) hx hb hts in_X12 tyX12 tyX12_ok nmX12 hown hK hP hD hS 0 rfl rfl 1 (by decide) (hts (.fieldLink RX12 151 "TextMenderModel" "taped" "I") (List.mem_of_getElem? (i := 2) rfl)) (fun _ h9 => h9) rfl (by decide +kernel) rfl rfl (Nat.le_of_ble_eq_true rfl) dX12_end_21 (kW (wn := [(oM, .inr (12, [.ref mT, .int n, .ref mS, .ref mX, .int zp, .int zf, .ref mL, .ref mB, .ref mD, .ref m1, .ref m2, .int zh, .ref mR, .int zr, .ref x1, .ref x2, .ref x3, .int zc, .ref mH, .int zy, .int za, .int zb, .int zs, .int zq, .int zw, .int 0, .ref mY, .int zn, .ref mE, .int zm, .int zl, .ref mW, .int zk, .ref mO, .int zd, .ref y1, .ref y2, .ref y3, .ref y4, .ref mZ]))]) rfl (fun H locs hPn hDn hSn => ?_))
      clear hP hD hS
      have hP := hPn
      have hD := hDn
      have hS := hSn
      clear hPn hDn hSn
      refine lv_iconst (v := 1) hx hb dX12_end_24 (by decide) ?_
      exact kl_z (v := 1) hQQ hx hb hr hlocks hS dX12_end_25 (rfl) ⟨0, n, ⟨hP, hD⟩, by omega, by show (1 = 1 ∧ 0 ≤ n.toInt ∧ n.toInt ≤ zt.toInt ∧ n.toInt = n.toInt) ∨ (1 = 0 ∧ (n.toInt < 0 ∨ zt.toInt < n.toInt) ∧ n.toInt = zt.toInt); omega⟩
    · have tc_2 : zt.toInt < n.toInt := v_nle c_2
      have rw2_0 := v_rng n
      refine lv_iconst (v := 0) hx hb dX12_end_17 (by decide) ?_
      exact kl_z (v := 0) hQQ hx hb hr hlocks hS dX12_end_18 (rfl) ⟨0, zt, ⟨hP, hD⟩, g_zt, by show (0 = 1 ∧ 0 ≤ n.toInt ∧ n.toInt ≤ zt.toInt ∧ zt.toInt = n.toInt) ∨ (0 = 0 ∧ (n.toInt < 0 ∨ zt.toInt < n.toInt) ∧ zt.toInt = zt.toInt); omega⟩

set_option maxHeartbeats 40000000 in
set_option maxRecDepth 100000 in
theorem m_X12_marksOf (l : Launch) (dC : Nat → ClassId) (dI : Nat → Nat → Nat) (cI cS : ClassId) (sz : Nat) (oM : Nat) (mT : Nat) (mS : Nat) (mX : Nat) (mL : Nat) (mB : Nat) (mD : Nat) (m1 : Nat) (m2 : Nat) (mR : Nat) (x1 : Nat) (x2 : Nat) (x3 : Nat) (mH : Nat) (mY : Nat) (mE : Nat) (mW : Nat) (mO : Nat) (y1 : Nat) (y2 : Nat) (y3 : Nat) (y4 : Nat) (mZ : Nat) (zt : Int32) (zp : Int32) (zf : Int32) (zh : Int32) (zr : Int32) (zc : Int32) (zy : Int32) (za : Int32) (zb : Int32) (zs : Int32) (zq : Int32) (zw : Int32) (ze : Int32) (zn : Int32) (zm : Int32) (zl : Int32) (zk : Int32) (zd : Int32) (eS : Nat → Int32) (eX : Nat → Int32) (g_zt : 0 ≤ zt.toInt ∧ zt.toInt ≤ 900) (g_zp : 0 ≤ zp.toInt ∧ zp.toInt ≤ 20) (g_zf : 0 ≤ zf.toInt ∧ zf.toInt ≤ 19) (g_zh : 0 ≤ zh.toInt ∧ zh.toInt ≤ 6) (g_zr : 0 ≤ zr.toInt ∧ zr.toInt ≤ 258) (g_zc : 0 ≤ zc.toInt ∧ zc.toInt ≤ 300) (g_zy : 0 ≤ zy.toInt ∧ zy.toInt ≤ 65536) (g_za : 0 ≤ za.toInt ∧ za.toInt ≤ 5) (g_zb : 0 ≤ zb.toInt ∧ zb.toInt ≤ 5) (g_zs : 0 ≤ zs.toInt ∧ zs.toInt ≤ 2000000) (g_zq : -1 ≤ zq.toInt ∧ zq.toInt ≤ 2000000) (g_zn : 0 ≤ zn.toInt ∧ zn.toInt ≤ 2600) (g_zm : 0 ≤ zm.toInt ∧ zm.toInt ≤ 2600) (g_zk : 0 ≤ zk.toInt ∧ zk.toInt ≤ 300) (g_eS : rg 0 300 eS) (g_eX : rg 0 65535 eX) : kMi l yX12_marksOf wsX12_marksOf ({ frames := 0, cells := 0, slots := 0, locals := 0 } : Room) [.ref oM] sz (dC, dI) vwCl [(cI, .int), (cS, .short)] [(oM, .inr (12, [.ref mT, .int zt, .ref mS, .ref mX, .int zp, .int zf, .ref mL, .ref mB, .ref mD, .ref m1, .ref m2, .int zh, .ref mR, .int zr, .ref x1, .ref x2, .ref x3, .int zc, .ref mH, .int zy, .int za, .int zb, .int zs, .int zq, .int zw, .int ze, .ref mY, .int zn, .ref mE, .int zm, .int zl, .ref mW, .int zk, .ref mO, .int zd, .ref y1, .ref y2, .ref y3, .ref y4, .ref mZ])), (mS, .inl (cI, 21, .inl eS)), (mX, .inl (cI, 6300, .inl eX))] (fun _ => True) 0 0 (fun (A : Nat → Prop) (r : Int32) (hh9 : Heap) => kPD (dC, dI) vwCl A [(oM, .inr (12, [.ref mT, .int zt, .ref mS, .ref mX, .int zp, .int zf, .ref mL, .ref mB, .ref mD, .ref m1, .ref m2, .int zh, .ref mR, .int zr, .ref x1, .ref x2, .ref x3, .int zc, .ref mH, .int zy, .int za, .int zb, .int zs, .int zq, .int zw, .int ze, .ref mY, .int zn, .ref mE, .int zm, .int zl, .ref mW, .int zk, .ref mO, .int zd, .ref y1, .ref y2, .ref y3, .ref y4, .ref mZ])), (mS, .inl (cI, 21, .inl eS)), (mX, .inl (cI, 6300, .inl eX))] hh9 ∧ (0 ≤ r.toInt ∧ r.toInt ≤ 300) ∧ (mkN (eS 0).toInt r.toInt eX)) := by
  refine kMi_of (cc := cX12_marksOf) (maxL := 3) (ret := (some .int)) (lv := [(0, .ref oM)]) (by decide +kernel) rfl rfl (Nat.le_of_ble_eq_true rfl) ?_
  intro p e s m below meth c A QQ ls hx hb hr hts hml hown hlocks hA hQQ hK hX hP hD hS hl
  have hown : s.vm.findClass RX12 = some m.cls := hown
  have hcf := k_cf hx hb hml hown hts
  have in_X12 : ∀ w ∈ wsX120, w ∈ wsX12_marksOf := fun _ h => List.mem_cons_of_mem _ (List.mem_append_right _ (h))
  replace g_zt := hid g_zt
  replace g_zp := hid g_zp
  replace g_zf := hid g_zf
  replace g_zh := hid g_zh
  replace g_zr := hid g_zr
  replace g_zc := hid g_zc
  replace g_zy := hid g_zy
  replace g_za := hid g_za
  replace g_zb := hid g_zb
  replace g_zs := hid g_zs
  replace g_zq := hid g_zq
  replace g_zn := hid g_zn
  replace g_zm := hid g_zm
  replace g_zk := hid g_zk
  refine lv_iconst (v := 0) hx hb dX12_marksOf_0 (by decide) ?_
  refine lv_istore_n (lv' := [(1, .int 0), (0, .ref oM)]) hx hb dX12_marksOf_1 rfl hl (by decide) rfl (fun ls hl => ?_)
  refine lv_iconst (v := 0) hx hb dX12_marksOf_2 (by decide) ?_
  refine lv_istore_n (lv' := [(2, .int 0), (1, .int 0), (0, .ref oM)]) hx hb dX12_marksOf_3 rfl hl (by decide) rfl (fun ls hl => ?_)
  have LOOP_4 : ∀ (k_4 : Nat) (k : Int32) (mk : Int32) (H : Heap) (locs : List Loc) (ls : Array Slot), MSd (300 - k.toInt : Int) k_4 → (0 ≤ k.toInt ∧ k.toInt ≤ 300) → (0 ≤ mk.toInt ∧ mk.toInt ≤ k.toInt) → (mkN k.toInt mk.toInt eX) → (k.toInt ≤ (eS 0).toInt) → va_P (dC, dI) vwCl [(oM, .inr (12, [.ref mT, .int zt, .ref mS, .ref mX, .int zp, .int zf, .ref mL, .ref mB, .ref mD, .ref m1, .ref m2, .int zh, .ref mR, .int zr, .ref x1, .ref x2, .ref x3, .int zc, .ref mH, .int zy, .int za, .int zb, .int zs, .int zq, .int zw, .int ze, .ref mY, .int zn, .ref mE, .int zm, .int zl, .ref mW, .int zk, .ref mO, .int zd, .ref y1, .ref y2, .ref y3, .ref y4, .ref mZ])), (mS, .inl (cI, 21, .inl eS)), (mX, .inl (cI, 6300, .inl eX))] H → va_D A [(oM, .inr (12, [.ref mT, .int zt, .ref mS, .ref mX, .int zp, .int zf, .ref mL, .ref mB, .ref mD, .ref m1, .ref m2, .int zh, .ref mR, .int zr, .ref x1, .ref x2, .ref x3, .int zc, .ref mH, .int zy, .int za, .int zb, .int zs, .int zq, .int zw, .int ze, .ref mY, .int zn, .ref mE, .int zm, .int zl, .ref mW, .int zk, .ref mO, .int zd, .ref y1, .ref y2, .ref y3, .ref y4, .ref mZ])), (mS, .inl (cI, 21, .inl eS)), (mX, .inl (cI, 6300, .inl eX))] → va_S A s.heap H locs → lv_has ls 3 [(2, .int k), (1, .int mk), (0, .ref oM)] → W p l e (headSpec wsX12_marksOf ({ frames := 0, cells := 0, slots := 0, locals := 0 } : Room)).room s m ([.ref oM] : List Value).toArray below meth c H locs 0 0 (MQ below QQ ([.ref oM] : List Value).toArray s 0 0 A) (F0 m 4 ls []) := by
    clear hP hD hS hl
    intro k_4
    induction k_4 with
    | zero =>
      intro k mk H locs ls hm_4 g_k g_mk hmk hks hP hD hS hl
      exact ms_0 hm_4
    | succ k_4 ih_4 =>
      intro k mk H locs ls hm_4 g_k g_mk hmk hks hP hD hS hl
      refine lv_iload_n hx hb dX12_marksOf_4 rfl (lv_at hl 0 rfl) ?_
      refine lv_aload_n hx hb dX12_marksOf_5 rfl (lv_at hl 2 rfl) ?_
      refine va_get (D := (dC, dI)) (ci := 12) (v := .ref mS) (C := RX12) (T := TX12) (N := 40) hx hb hts in_X12 hown hK hP 0 rfl rfl 2 (by decide) (hts (.fieldLink RX12 13 "TextMenderModel" "sizes" "[I") (List.mem_of_getElem? (i := 1) rfl)) (fun _ h9 => h9) rfl dX12_marksOf_6 ?_
      refine lv_iconst (v := 0) hx hb dX12_marksOf_9 (by decide) ?_
      refine va_iald hx hb hK hP 1 0 rfl rfl (by unfold vp_in; decide) dX12_marksOf_10 ?_
      refine lv_topi (fun x_1 ex_1 => ?_)
      have tx_1 : 0 ≤ x_1.toInt ∧ x_1.toInt ≤ 300 := rg_at g_eS ex_1
      refine lv_icmp_ge (tgt := 34) hx hb dX12_marksOf_11 (by decide) (fun c_2 => ?_) (fun c_2 => ?_)
      · have tc_2 : x_1.toInt ≤ k.toInt := v_le c_2
        refine lv_iload_n hx hb dX12_marksOf_34 rfl (lv_at hl 1 rfl) ?_
        exact kl_i (v := mk) hQQ hx hb hr hlocks hS dX12_marksOf_35 ⟨⟨hP, hD⟩, by omega, mkN_eq hmk (by have q9 : x_1 = eS 0 := ex_1; have h9 := hks; rw [← q9] at h9 ⊢; omega)⟩
      · have tc_2 : k.toInt < x_1.toInt := v_nle c_2
        refine lv_aload_n hx hb dX12_marksOf_14 rfl (lv_at hl 2 rfl) ?_
        refine va_get (D := (dC, dI)) (ci := 12) (v := .ref mX) (C := RX12) (T := TX12) (N := 40) hx hb hts in_X12 hown hK hP 0 rfl rfl 3 (by decide) (hts (.fieldLink RX12 16 "TextMenderModel" "texts" "[I") (List.mem_of_getElem? (i := 2) rfl)) (fun _ h9 => h9) rfl dX12_marksOf_15 ?_
        refine lv_iload_n hx hb dX12_marksOf_18 rfl (lv_at hl 0 rfl) ?_
        refine va_iald hx hb hK hP 2 0 rfl rfl (v_inR g_k (by decide) (by decide)) dX12_marksOf_19 ?_
        refine lv_topi (fun x_3 ex_3 => ?_)
        have tx_3 : 0 ≤ x_3.toInt ∧ x_3.toInt ≤ 65535 := rg_at g_eX ex_3
        refine lv_ldc hx hb hown (hts (.constant RX12 126 (65533)) (List.mem_of_getElem? (i := 3) rfl)) dX12_marksOf_20 ?_
        refine lv_icmp_ne (tgt := 28) hx hb dX12_marksOf_22 (by decide) (fun c_4 => ?_) (fun c_4 => ?_)
        · have tc_4 : ¬ x_3.toInt = 65533 := v_ne c_4
          obtain ⟨x_5, ex_5⟩ : ∃ y : Int32, y = k + 1 := ⟨_, rfl⟩
          have tx_5 : x_5.toInt = k.toInt + 1 := v_addR (l2 := 1) (h2 := 1) ex_5 g_k (by decide) (by decide) (by decide)
          refine lv_iinc (v := x_5) (lv' := [(2, .int x_5), (1, .int mk), (0, .ref oM)]) hx hb dX12_marksOf_28 hl (k := 0) rfl (by rw [ex_5]; rfl) (by decide) rfl (fun ls hl => ?_)
          refine lv_goto (tgt := 4) hx hb dX12_marksOf_31 (by decide) ?_
          exact ih_4 x_5 mk _ _ _ (ms_lt hm_4 (by show ((300 - x_5.toInt : Int)) < 300 - k.toInt; omega) (by show (0 : Int) < 300 - k.toInt; omega)) (by show 0 ≤ x_5.toInt ∧ x_5.toInt ≤ 300; omega) (by show 0 ≤ mk.toInt ∧ mk.toInt ≤ x_5.toInt; omega) (mkN_no hmk ex_3 (by omega) (by omega) (by omega)) (by have q9 : x_1 = eS 0 := ex_1; rw [← q9]; omega) hP hD hS (lv_sub hl [0, 1, 2] rfl)
        · have tc_4 : x_3.toInt = 65533 := v_eq c_4
          obtain ⟨x_6, ex_6⟩ : ∃ y : Int32, y = mk + 1 := ⟨_, rfl⟩
          have tx_6 : x_6.toInt = mk.toInt + 1 := v_add ex_6 (by show -2147483648 ≤ mk.toInt + 1; omega) (by show mk.toInt + 1 < 2147483648; omega)
          refine lv_iinc (v := x_6) (lv' := [(1, .int x_6), (2, .int k), (0, .ref oM)]) hx hb dX12_marksOf_25 hl (k := 1) rfl (by rw [ex_6]; rfl) (by decide) rfl (fun ls hl => ?_)
          obtain ⟨x_7, ex_7⟩ : ∃ y : Int32, y = k + 1 := ⟨_, rfl⟩
          have tx_7 : x_7.toInt = k.toInt + 1 := v_addR (l2 := 1) (h2 := 1) ex_7 g_k (by decide) (by decide) (by decide)
          refine lv_iinc (v := x_7) (lv' := [(2, .int x_7), (1, .int x_6), (0, .ref oM)]) hx hb dX12_marksOf_28 hl (k := 1) rfl (by rw [ex_7]; rfl) (by decide) rfl (fun ls hl => ?_)
          refine lv_goto (tgt := 4) hx hb dX12_marksOf_31 (by decide) ?_
          exact ih_4 x_7 x_6 _ _ _ (ms_lt hm_4 (by show ((300 - x_7.toInt : Int)) < 300 - k.toInt; omega) (by show (0 : Int) < 300 - k.toInt; omega)) (by show 0 ≤ x_7.toInt ∧ x_7.toInt ≤ 300; omega) (by show 0 ≤ x_6.toInt ∧ x_6.toInt ≤ x_7.toInt; omega) (mkN_eq2 (mkN_yes hmk ex_3 (by omega) (by omega) (by omega)) (by omega)) (by have q9 : x_1 = eS 0 := ex_1; rw [← q9]; omega) hP hD hS (lv_sub hl [0, 1, 2] rfl)
  exact LOOP_4 _ 0 0 _ _ _ (ms_s _) (by decide) (by show 0 ≤ (0 : Int) ∧ (0 : Int) ≤ 0; omega) (mkN_0 (by decide)) (by show (0 : Int) ≤ (eS 0).toInt; exact (g_eS 0).1) hP hD hS (lv_sub hl [0, 1, 2] rfl)

set_option maxHeartbeats 40000000 in
set_option maxRecDepth 100000 in
theorem y_count (l : Launch) (dC : Nat → ClassId) (dI : Nat → Nat → Nat) (cI cS : ClassId) (sz : Nat) (oM : Nat) (mT : Nat) (mS : Nat) (mX : Nat) (mL : Nat) (mB : Nat) (mD : Nat) (m1 : Nat) (m2 : Nat) (mR : Nat) (x1 : Nat) (x2 : Nat) (x3 : Nat) (mH : Nat) (mY : Nat) (mE : Nat) (mW : Nat) (mO : Nat) (y1 : Nat) (y2 : Nat) (y3 : Nat) (y4 : Nat) (mZ : Nat) (zt : Int32) (zp : Int32) (zf : Int32) (zh : Int32) (zr : Int32) (zc : Int32) (zy : Int32) (za : Int32) (zb : Int32) (zs : Int32) (zq : Int32) (zw : Int32) (ze : Int32) (zn : Int32) (zm : Int32) (zl : Int32) (zk : Int32) (zd : Int32) (eS : Nat → Int32) (eX : Nat → Int32) (eD : Nat → Int32) (wh : Int32) (g_zt : 0 ≤ zt.toInt ∧ zt.toInt ≤ 900) (g_zp : 0 ≤ zp.toInt ∧ zp.toInt ≤ 20) (g_zf : 0 ≤ zf.toInt ∧ zf.toInt ≤ 19) (g_zh : 0 ≤ zh.toInt ∧ zh.toInt ≤ 6) (g_zr : 0 ≤ zr.toInt ∧ zr.toInt ≤ 258) (g_zc : 0 ≤ zc.toInt ∧ zc.toInt ≤ 300) (g_zy : 0 ≤ zy.toInt ∧ zy.toInt ≤ 65536) (g_za : 0 ≤ za.toInt ∧ za.toInt ≤ 5) (g_zb : 0 ≤ zb.toInt ∧ zb.toInt ≤ 5) (g_zs : 0 ≤ zs.toInt ∧ zs.toInt ≤ 2000000) (g_zq : -1 ≤ zq.toInt ∧ zq.toInt ≤ 2000000) (g_zn : 0 ≤ zn.toInt ∧ zn.toInt ≤ 2600) (g_zm : 0 ≤ zm.toInt ∧ zm.toInt ≤ 2600) (g_zk : 0 ≤ zk.toInt ∧ zk.toInt ≤ 300) (g_eS : rg 0 300 eS) (g_eX : rg 0 65535 eX) (hzs : zs.toInt ≤ 1000000) : kMi l yX12_count wsX12_count ({ frames := 1, cells := 0, slots := 0, locals := 22 } : Room) [.ref oM, .int wh] sz (dC, dI) vwCl [(cI, .int), (cS, .short)] [(oM, .inr (12, [.ref mT, .int zt, .ref mS, .ref mX, .int zp, .int zf, .ref mL, .ref mB, .ref mD, .ref m1, .ref m2, .int zh, .ref mR, .int zr, .ref x1, .ref x2, .ref x3, .int zc, .ref mH, .int zy, .int za, .int zb, .int zs, .int zq, .int zw, .int ze, .ref mY, .int zn, .ref mE, .int zm, .int zl, .ref mW, .int zk, .ref mO, .int zd, .ref y1, .ref y2, .ref y3, .ref y4, .ref mZ])), (mS, .inl (cI, 21, .inl eS)), (mX, .inl (cI, 6300, .inl eX)), (mD, .inl (cI, 2, .inl eD))] (fun _ => True) 0 0 (fun (A : Nat → Prop) (r : Int32) (hh9 : Heap) => ∃ (ze' : Int32), kPD (dC, dI) vwCl A [(oM, .inr (12, [.ref mT, .int zt, .ref mS, .ref mX, .int zp, .int zf, .ref mL, .ref mB, .ref mD, .ref m1, .ref m2, .int zh, .ref mR, .int zr, .ref x1, .ref x2, .ref x3, .int zc, .ref mH, .int zy, .int za, .int zb, .int zs, .int zq, .int zw, .int ze', .ref mY, .int zn, .ref mE, .int zm, .int zl, .ref mW, .int zk, .ref mO, .int zd, .ref y1, .ref y2, .ref y3, .ref y4, .ref mZ])), (mS, .inl (cI, 21, .inl eS)), (mX, .inl (cI, 6300, .inl eX)), (mD, .inl (cI, 2, .inl eD))] hh9) := by
  refine kMi_of (cc := cX12_count) (maxL := 2) (ret := (some .int)) (lv := [(0, .ref oM), (1, .int wh)]) (by decide +kernel) rfl rfl (Nat.le_of_ble_eq_true rfl) ?_
  intro p e s m below meth c A QQ ls hx hb hr hts hml hown hlocks hA hQQ hK hX hP hD hS hl
  have hown : s.vm.findClass RX12 = some m.cls := hown
  have hcf := k_cf hx hb hml hown hts
  have in_X12 : ∀ w ∈ wsX120, w ∈ wsX12_count := fun _ h => List.mem_cons_of_mem _ (List.mem_append_right _ (h))
  replace g_zt := hid g_zt
  replace g_zp := hid g_zp
  replace g_zf := hid g_zf
  replace g_zh := hid g_zh
  replace g_zr := hid g_zr
  replace g_zc := hid g_zc
  replace g_zy := hid g_zy
  replace g_za := hid g_za
  replace g_zb := hid g_zb
  replace g_zs := hid g_zs
  replace g_zq := hid g_zq
  replace g_zn := hid g_zn
  replace g_zm := hid g_zm
  replace g_zk := hid g_zk
  refine lv_aload_n hx hb dX12_count_0 rfl (lv_at hl 0 rfl) ?_
  refine lv_iconst (v := 0) hx hb dX12_count_1 (by decide) ?_
  refine va_put (D := (dC, dI)) (ci := 12) (v := .int 0) (ty := .int) (C := RX12) (T := TX12) (N := 40) hx hb hts in_X12 tyX12 tyX12_ok nmX12 hown hK hP hD hS 0 rfl rfl 25 (by decide) (hts (.fieldLink RX12 85 "TextMenderModel" "thrown" "I") (List.mem_of_getElem? (i := 1) rfl)) (fun _ h9 => h9) rfl (by decide +kernel) rfl rfl (Nat.le_of_ble_eq_true rfl) dX12_count_2 (kW (wn := [(oM, .inr (12, [.ref mT, .int zt, .ref mS, .ref mX, .int zp, .int zf, .ref mL, .ref mB, .ref mD, .ref m1, .ref m2, .int zh, .ref mR, .int zr, .ref x1, .ref x2, .ref x3, .int zc, .ref mH, .int zy, .int za, .int zb, .int zs, .int zq, .int zw, .int 0, .ref mY, .int zn, .ref mE, .int zm, .int zl, .ref mW, .int zk, .ref mO, .int zd, .ref y1, .ref y2, .ref y3, .ref y4, .ref mZ])), (mS, .inl (cI, 21, .inl eS)), (mX, .inl (cI, 6300, .inl eX)), (mD, .inl (cI, 2, .inl eD))]) rfl (fun H locs hPn hDn hSn => ?_))
  clear hP hD hS
  have hP := hPn
  have hD := hDn
  have hS := hSn
  clear hPn hDn hSn
  refine lv_iload_n hx hb dX12_count_5 rfl (lv_at hl 1 rfl) ?_
  by_cases c_1 : wh = 0
  · refine lv_tableIn (tgt := 52) hx hb dX12_count_6 (by rw [c_1]; decide) (by rw [c_1]; decide) (by rw [c_1]; rfl) (by decide) ?_
    have tc_1 : wh.toInt = 0 := v_eq c_1
    refine lv_aload_n hx hb dX12_count_52 rfl (lv_at hl 0 rfl) ?_
    refine va_get (D := (dC, dI)) (ci := 12) (v := .ref mS) (C := RX12) (T := TX12) (N := 40) hx hb hts in_X12 hown hK hP 0 rfl rfl 2 (by decide) (hts (.fieldLink RX12 13 "TextMenderModel" "sizes" "[I") (List.mem_of_getElem? (i := 2) rfl)) (fun _ h9 => h9) rfl dX12_count_53 ?_
    refine lv_iconst (v := 0) hx hb dX12_count_56 (by decide) ?_
    refine va_iald hx hb hK hP 1 0 rfl rfl (by unfold vp_in; decide) dX12_count_57 ?_
    refine lv_topi (fun x_2 ex_2 => ?_)
    have tx_2 : 0 ≤ x_2.toInt ∧ x_2.toInt ≤ 300 := rg_at g_eS ex_2
    exact kl_i (v := x_2) hQQ hx hb hr hlocks hS dX12_count_58 ⟨0, ⟨hP, hD⟩⟩
  · skip
    have tc_1 : ¬ wh.toInt = 0 := v_ne c_1
    by_cases c_3 : wh = 1
    · refine lv_tableIn (tgt := 59) hx hb dX12_count_6 (by rw [c_3]; decide) (by rw [c_3]; decide) (by rw [c_3]; rfl) (by decide) ?_
      have tc_3 : wh.toInt = 1 := v_eq c_3
      refine lv_aload_n hx hb dX12_count_59 rfl (lv_at hl 0 rfl) ?_
      refine va_get (D := (dC, dI)) (ci := 12) (v := .int zt) (C := RX12) (T := TX12) (N := 40) hx hb hts in_X12 hown hK hP 0 rfl rfl 1 (by decide) (hts (.fieldLink RX12 151 "TextMenderModel" "taped" "I") (List.mem_of_getElem? (i := 3) rfl)) (fun _ h9 => h9) rfl dX12_count_60 ?_
      exact kl_i (v := zt) hQQ hx hb hr hlocks hS dX12_count_63 ⟨0, ⟨hP, hD⟩⟩
    · skip
      have tc_3 : ¬ wh.toInt = 1 := v_ne c_3
      by_cases c_4 : wh = 2
      · refine lv_tableIn (tgt := 64) hx hb dX12_count_6 (by rw [c_4]; decide) (by rw [c_4]; decide) (by rw [c_4]; rfl) (by decide) ?_
        have tc_4 : wh.toInt = 2 := v_eq c_4
        refine lv_aload_n hx hb dX12_count_64 rfl (lv_at hl 0 rfl) ?_
        refine va_get (D := (dC, dI)) (ci := 12) (v := .int zh) (C := RX12) (T := TX12) (N := 40) hx hb hts in_X12 hown hK hP 0 rfl rfl 11 (by decide) (hts (.fieldLink RX12 161 "TextMenderModel" "harms" "I") (List.mem_of_getElem? (i := 4) rfl)) (fun _ h9 => h9) rfl dX12_count_65 ?_
        exact kl_i (v := zh) hQQ hx hb hr hlocks hS dX12_count_68 ⟨0, ⟨hP, hD⟩⟩
      · skip
        have tc_4 : ¬ wh.toInt = 2 := v_ne c_4
        by_cases c_5 : wh = 3
        · refine lv_tableIn (tgt := 69) hx hb dX12_count_6 (by rw [c_5]; decide) (by rw [c_5]; decide) (by rw [c_5]; rfl) (by decide) ?_
          have tc_5 : wh.toInt = 3 := v_eq c_5
          refine lv_aload_n hx hb dX12_count_69 rfl (lv_at hl 0 rfl) ?_
          refine va_get (D := (dC, dI)) (ci := 12) (v := .int zp) (C := RX12) (T := TX12) (N := 40) hx hb hts in_X12 hown hK hP 0 rfl rfl 4 (by decide) (hts (.fieldLink RX12 142 "TextMenderModel" "past" "I") (List.mem_of_getElem? (i := 5) rfl)) (fun _ h9 => h9) rfl dX12_count_70 ?_
          exact kl_i (v := zp) hQQ hx hb hr hlocks hS dX12_count_73 ⟨0, ⟨hP, hD⟩⟩
        · skip
          have tc_5 : ¬ wh.toInt = 3 := v_ne c_5
          by_cases c_6 : wh = 4
          · refine lv_tableIn (tgt := 74) hx hb dX12_count_6 (by rw [c_6]; decide) (by rw [c_6]; decide) (by rw [c_6]; rfl) (by decide) ?_
            have tc_6 : wh.toInt = 4 := v_eq c_6
            refine lv_aload_n hx hb dX12_count_74 rfl (lv_at hl 0 rfl) ?_
            refine kV_i (rest := []) (q0 := 0) (ci := 12) hcf (m_X12_marksOf l dC dI cI cS H.size oM mT mS mX mL mB mD m1 m2 mR x1 x2 x3 mH mY mE mW mO y1 y2 y3 y4 mZ zt zp zf zh zr zc zy za zb zs zq zw 0 zn zm zl zk zd eS eX (g_zt) (g_zp) (g_zf) (g_zh) (g_zr) (g_zc) (g_zy) (g_za) (g_zb) (g_zs) (g_zq) (g_zn) (g_zm) (g_zk) (g_eS) (g_eX)) kc_X12_marksOf gX12_count_X12_marksOf rfl rfl rfl ⟨Nat.le_of_ble_eq_true rfl, Nat.le_of_ble_eq_true rfl⟩ kX_t hK hP hD hS hA [0, 1, 2] [3] rfl (by decide +kernel) rfl rfl rfl hl rfl (Nat.le_of_ble_eq_true rfl) dX12_count_75 ⟨Nat.le_of_ble_eq_true rfl, Nat.le_of_ble_eq_true rfl⟩ (fun r_7 H locs hB hJ hSn => ?_)
            obtain ⟨⟨hP1, hD1⟩, hf7_0, hf7_1⟩ := hB
            obtain ⟨hPn, hDn⟩ := hJ _ hP1 hD1 [(mD, .inl (cI, 2, .inl eD)), (oM, .inr (12, [.ref mT, .int zt, .ref mS, .ref mX, .int zp, .int zf, .ref mL, .ref mB, .ref mD, .ref m1, .ref m2, .int zh, .ref mR, .int zr, .ref x1, .ref x2, .ref x3, .int zc, .ref mH, .int zy, .int za, .int zb, .int zs, .int zq, .int zw, .int 0, .ref mY, .int zn, .ref mE, .int zm, .int zl, .ref mW, .int zk, .ref mO, .int zd, .ref y1, .ref y2, .ref y3, .ref y4, .ref mZ])), (mS, .inl (cI, 21, .inl eS)), (mX, .inl (cI, 6300, .inl eX))] rfl
            clear hP hD hS hJ hP1 hD1
            have hP := hPn
            have hD := hDn
            have hS := hSn
            clear hPn hDn hSn
            exact kl_i (v := r_7) hQQ hx hb hr hlocks hS dX12_count_78 ⟨0, kPD_sub hP hD [1, 2, 3, 0] (by decide +kernel) rfl⟩
          · skip
            have tc_6 : ¬ wh.toInt = 4 := v_ne c_6
            by_cases c_8 : wh = 5
            · refine lv_tableIn (tgt := 79) hx hb dX12_count_6 (by rw [c_8]; decide) (by rw [c_8]; decide) (by rw [c_8]; rfl) (by decide) ?_
              have tc_8 : wh.toInt = 5 := v_eq c_8
              refine lv_aload_n hx hb dX12_count_79 rfl (lv_at hl 0 rfl) ?_
              refine va_get (D := (dC, dI)) (ci := 12) (v := .int zc) (C := RX12) (T := TX12) (N := 40) hx hb hts in_X12 hown hK hP 0 rfl rfl 17 (by decide) (hts (.fieldLink RX12 168 "TextMenderModel" "costs" "I") (List.mem_of_getElem? (i := 6) rfl)) (fun _ h9 => h9) rfl dX12_count_80 ?_
              exact kl_i (v := zc) hQQ hx hb hr hlocks hS dX12_count_83 ⟨0, ⟨hP, hD⟩⟩
            · skip
              have tc_8 : ¬ wh.toInt = 5 := v_ne c_8
              by_cases c_9 : wh = 6
              · refine lv_tableIn (tgt := 84) hx hb dX12_count_6 (by rw [c_9]; decide) (by rw [c_9]; decide) (by rw [c_9]; rfl) (by decide) ?_
                have tc_9 : wh.toInt = 6 := v_eq c_9
                refine lv_aload_n hx hb dX12_count_84 rfl (lv_at hl 0 rfl) ?_
                refine va_get (D := (dC, dI)) (ci := 12) (v := .ref mD) (C := RX12) (T := TX12) (N := 40) hx hb hts in_X12 hown hK hP 0 rfl rfl 8 (by decide) (hts (.fieldLink RX12 27 "TextMenderModel" "told" "[I") (List.mem_of_getElem? (i := 7) rfl)) (fun _ h9 => h9) rfl dX12_count_85 ?_
                refine lv_iconst (v := 0) hx hb dX12_count_88 (by decide) ?_
                refine va_iald hx hb hK hP 3 0 rfl rfl (by unfold vp_in; decide) dX12_count_89 ?_
                refine lv_topi (fun x_10 ex_10 => ?_)
                exact kl_i (v := x_10) hQQ hx hb hr hlocks hS dX12_count_90 ⟨0, ⟨hP, hD⟩⟩
              · skip
                have tc_9 : ¬ wh.toInt = 6 := v_ne c_9
                by_cases c_11 : wh = 7
                · refine lv_tableIn (tgt := 91) hx hb dX12_count_6 (by rw [c_11]; decide) (by rw [c_11]; decide) (by rw [c_11]; rfl) (by decide) ?_
                  have tc_11 : wh.toInt = 7 := v_eq c_11
                  refine lv_aload_n hx hb dX12_count_91 rfl (lv_at hl 0 rfl) ?_
                  refine va_get (D := (dC, dI)) (ci := 12) (v := .ref mD) (C := RX12) (T := TX12) (N := 40) hx hb hts in_X12 hown hK hP 0 rfl rfl 8 (by decide) (hts (.fieldLink RX12 27 "TextMenderModel" "told" "[I") (List.mem_of_getElem? (i := 7) rfl)) (fun _ h9 => h9) rfl dX12_count_92 ?_
                  refine lv_iconst (v := 1) hx hb dX12_count_95 (by decide) ?_
                  refine va_iald hx hb hK hP 3 0 rfl rfl (by unfold vp_in; decide) dX12_count_96 ?_
                  refine lv_topi (fun x_12 ex_12 => ?_)
                  exact kl_i (v := x_12) hQQ hx hb hr hlocks hS dX12_count_97 ⟨0, ⟨hP, hD⟩⟩
                · skip
                  have tc_11 : ¬ wh.toInt = 7 := v_ne c_11
                  refine lv_tableOut (tgt := 98) hx hb dX12_count_6 (by omega) (by decide) ?_
                  refine lv_iconst (v := (-1)) hx hb dX12_count_98 (by decide) ?_
                  exact kl_i (v := (-1)) hQQ hx hb hr hlocks hS dX12_count_99 ⟨0, ⟨hP, hD⟩⟩

set_option maxHeartbeats 40000000 in
set_option maxRecDepth 100000 in
theorem y_at (l : Launch) (dC : Nat → ClassId) (dI : Nat → Nat → Nat) (cI cS : ClassId) (sz : Nat) (oM : Nat) (mT : Nat) (mS : Nat) (mX : Nat) (mL : Nat) (mB : Nat) (mD : Nat) (m1 : Nat) (m2 : Nat) (mR : Nat) (x1 : Nat) (x2 : Nat) (x3 : Nat) (mH : Nat) (mY : Nat) (mE : Nat) (mW : Nat) (mO : Nat) (y1 : Nat) (y2 : Nat) (y3 : Nat) (y4 : Nat) (mZ : Nat) (zt : Int32) (zp : Int32) (zf : Int32) (zh : Int32) (zr : Int32) (zc : Int32) (zy : Int32) (za : Int32) (zb : Int32) (zs : Int32) (zq : Int32) (zw : Int32) (ze : Int32) (zn : Int32) (zm : Int32) (zl : Int32) (zk : Int32) (zd : Int32) (eS : Nat → Int32) (eX : Nat → Int32) (i : Int32) (g_zt : 0 ≤ zt.toInt ∧ zt.toInt ≤ 900) (g_zp : 0 ≤ zp.toInt ∧ zp.toInt ≤ 20) (g_zf : 0 ≤ zf.toInt ∧ zf.toInt ≤ 19) (g_zh : 0 ≤ zh.toInt ∧ zh.toInt ≤ 6) (g_zr : 0 ≤ zr.toInt ∧ zr.toInt ≤ 258) (g_zc : 0 ≤ zc.toInt ∧ zc.toInt ≤ 300) (g_zy : 0 ≤ zy.toInt ∧ zy.toInt ≤ 65536) (g_za : 0 ≤ za.toInt ∧ za.toInt ≤ 5) (g_zb : 0 ≤ zb.toInt ∧ zb.toInt ≤ 5) (g_zs : 0 ≤ zs.toInt ∧ zs.toInt ≤ 2000000) (g_zq : -1 ≤ zq.toInt ∧ zq.toInt ≤ 2000000) (g_zn : 0 ≤ zn.toInt ∧ zn.toInt ≤ 2600) (g_zm : 0 ≤ zm.toInt ∧ zm.toInt ≤ 2600) (g_zk : 0 ≤ zk.toInt ∧ zk.toInt ≤ 300) (g_eS : rg 0 300 eS) (g_eX : rg 0 65535 eX) (hzs : zs.toInt ≤ 1000000) : kMi l yX12_at wsX12_at ({ frames := 0, cells := 0, slots := 0, locals := 0 } : Room) [.ref oM, .int i] sz (dC, dI) vwCl [(cI, .int), (cS, .short)] [(oM, .inr (12, [.ref mT, .int zt, .ref mS, .ref mX, .int zp, .int zf, .ref mL, .ref mB, .ref mD, .ref m1, .ref m2, .int zh, .ref mR, .int zr, .ref x1, .ref x2, .ref x3, .int zc, .ref mH, .int zy, .int za, .int zb, .int zs, .int zq, .int zw, .int ze, .ref mY, .int zn, .ref mE, .int zm, .int zl, .ref mW, .int zk, .ref mO, .int zd, .ref y1, .ref y2, .ref y3, .ref y4, .ref mZ])), (mS, .inl (cI, 21, .inl eS)), (mX, .inl (cI, 6300, .inl eX))] (fun _ => True) 0 0 (fun (A : Nat → Prop) (r : Int32) (hh9 : Heap) => ∃ (ze' : Int32), kPD (dC, dI) vwCl A [(oM, .inr (12, [.ref mT, .int zt, .ref mS, .ref mX, .int zp, .int zf, .ref mL, .ref mB, .ref mD, .ref m1, .ref m2, .int zh, .ref mR, .int zr, .ref x1, .ref x2, .ref x3, .int zc, .ref mH, .int zy, .int za, .int zb, .int zs, .int zq, .int zw, .int ze', .ref mY, .int zn, .ref mE, .int zm, .int zl, .ref mW, .int zk, .ref mO, .int zd, .ref y1, .ref y2, .ref y3, .ref y4, .ref mZ])), (mS, .inl (cI, 21, .inl eS)), (mX, .inl (cI, 6300, .inl eX))] hh9) := by
  refine kMi_of (cc := cX12_at) (maxL := 2) (ret := (some .int)) (lv := [(0, .ref oM), (1, .int i)]) (by decide +kernel) rfl rfl (Nat.le_of_ble_eq_true rfl) ?_
  intro p e s m below meth c A QQ ls hx hb hr hts hml hown hlocks hA hQQ hK hX hP hD hS hl
  have hown : s.vm.findClass RX12 = some m.cls := hown
  have hcf := k_cf hx hb hml hown hts
  have in_X12 : ∀ w ∈ wsX120, w ∈ wsX12_at := fun _ h => List.mem_cons_of_mem _ (List.mem_append_right _ (h))
  replace g_zt := hid g_zt
  replace g_zp := hid g_zp
  replace g_zf := hid g_zf
  replace g_zh := hid g_zh
  replace g_zr := hid g_zr
  replace g_zc := hid g_zc
  replace g_zy := hid g_zy
  replace g_za := hid g_za
  replace g_zb := hid g_zb
  replace g_zs := hid g_zs
  replace g_zq := hid g_zq
  replace g_zn := hid g_zn
  replace g_zm := hid g_zm
  replace g_zk := hid g_zk
  refine lv_aload_n hx hb dX12_at_0 rfl (lv_at hl 0 rfl) ?_
  refine lv_iconst (v := 0) hx hb dX12_at_1 (by decide) ?_
  refine va_put (D := (dC, dI)) (ci := 12) (v := .int 0) (ty := .int) (C := RX12) (T := TX12) (N := 40) hx hb hts in_X12 tyX12 tyX12_ok nmX12 hown hK hP hD hS 0 rfl rfl 25 (by decide) (hts (.fieldLink RX12 85 "TextMenderModel" "thrown" "I") (List.mem_of_getElem? (i := 1) rfl)) (fun _ h9 => h9) rfl (by decide +kernel) rfl rfl (Nat.le_of_ble_eq_true rfl) dX12_at_2 (kW (wn := [(oM, .inr (12, [.ref mT, .int zt, .ref mS, .ref mX, .int zp, .int zf, .ref mL, .ref mB, .ref mD, .ref m1, .ref m2, .int zh, .ref mR, .int zr, .ref x1, .ref x2, .ref x3, .int zc, .ref mH, .int zy, .int za, .int zb, .int zs, .int zq, .int zw, .int 0, .ref mY, .int zn, .ref mE, .int zm, .int zl, .ref mW, .int zk, .ref mO, .int zd, .ref y1, .ref y2, .ref y3, .ref y4, .ref mZ])), (mS, .inl (cI, 21, .inl eS)), (mX, .inl (cI, 6300, .inl eX))]) rfl (fun H locs hPn hDn hSn => ?_))
  clear hP hD hS
  have hP := hPn
  have hD := hDn
  have hS := hSn
  clear hPn hDn hSn
  refine lv_iload_n hx hb dX12_at_5 rfl (lv_at hl 1 rfl) ?_
  refine lv_if_lt (tgt := 19) hx hb dX12_at_6 (by decide) (fun c_1 => ?_) (fun c_1 => ?_)
  · have tc_1 : i.toInt < 0 := v_lt c_1
    refine lv_aload_n hx hb dX12_at_19 rfl (lv_at hl 0 rfl) ?_
    refine lv_iconst (v := 1) hx hb dX12_at_20 (by decide) ?_
    refine va_put (D := (dC, dI)) (ci := 12) (v := .int 1) (ty := .int) (C := RX12) (T := TX12) (N := 40) hx hb hts in_X12 tyX12 tyX12_ok nmX12 hown hK hP hD hS 0 rfl rfl 25 (by decide) (hts (.fieldLink RX12 85 "TextMenderModel" "thrown" "I") (List.mem_of_getElem? (i := 1) rfl)) (fun _ h9 => h9) rfl (by decide +kernel) rfl rfl (Nat.le_of_ble_eq_true rfl) dX12_at_21 (kW (wn := [(oM, .inr (12, [.ref mT, .int zt, .ref mS, .ref mX, .int zp, .int zf, .ref mL, .ref mB, .ref mD, .ref m1, .ref m2, .int zh, .ref mR, .int zr, .ref x1, .ref x2, .ref x3, .int zc, .ref mH, .int zy, .int za, .int zb, .int zs, .int zq, .int zw, .int 1, .ref mY, .int zn, .ref mE, .int zm, .int zl, .ref mW, .int zk, .ref mO, .int zd, .ref y1, .ref y2, .ref y3, .ref y4, .ref mZ])), (mS, .inl (cI, 21, .inl eS)), (mX, .inl (cI, 6300, .inl eX))]) rfl (fun H locs hPn hDn hSn => ?_))
    clear hP hD hS
    have hP := hPn
    have hD := hDn
    have hS := hSn
    clear hPn hDn hSn
    refine lv_iconst (v := 0) hx hb dX12_at_24 (by decide) ?_
    exact kl_i (v := 0) hQQ hx hb hr hlocks hS dX12_at_25 ⟨1, ⟨hP, hD⟩⟩
  · have tc_1 : 0 ≤ i.toInt := v_nlt c_1
    refine lv_iload_n hx hb dX12_at_9 rfl (lv_at hl 1 rfl) ?_
    refine lv_aload_n hx hb dX12_at_10 rfl (lv_at hl 0 rfl) ?_
    refine va_get (D := (dC, dI)) (ci := 12) (v := .ref mS) (C := RX12) (T := TX12) (N := 40) hx hb hts in_X12 hown hK hP 0 rfl rfl 2 (by decide) (hts (.fieldLink RX12 13 "TextMenderModel" "sizes" "[I") (List.mem_of_getElem? (i := 2) rfl)) (fun _ h9 => h9) rfl dX12_at_11 ?_
    refine lv_iconst (v := 0) hx hb dX12_at_14 (by decide) ?_
    refine va_iald hx hb hK hP 1 0 rfl rfl (by unfold vp_in; decide) dX12_at_15 ?_
    refine lv_topi (fun x_2 ex_2 => ?_)
    have tx_2 : 0 ≤ x_2.toInt ∧ x_2.toInt ≤ 300 := rg_at g_eS ex_2
    refine lv_icmp_lt (tgt := 26) hx hb dX12_at_16 (by decide) (fun c_3 => ?_) (fun c_3 => ?_)
    · have tc_3 : i.toInt < x_2.toInt := v_lt c_3
      have rw3_0 := v_rng i
      refine lv_aload_n hx hb dX12_at_26 rfl (lv_at hl 0 rfl) ?_
      refine va_get (D := (dC, dI)) (ci := 12) (v := .ref mX) (C := RX12) (T := TX12) (N := 40) hx hb hts in_X12 hown hK hP 0 rfl rfl 3 (by decide) (hts (.fieldLink RX12 16 "TextMenderModel" "texts" "[I") (List.mem_of_getElem? (i := 3) rfl)) (fun _ h9 => h9) rfl dX12_at_27 ?_
      refine lv_iload_n hx hb dX12_at_30 rfl (lv_at hl 1 rfl) ?_
      refine va_iald hx hb hK hP 2 0 rfl rfl (v_in (by omega)) dX12_at_31 ?_
      refine lv_topi (fun x_4 ex_4 => ?_)
      have tx_4 : 0 ≤ x_4.toInt ∧ x_4.toInt ≤ 65535 := rg_at g_eX ex_4
      exact kl_i (v := x_4) hQQ hx hb hr hlocks hS dX12_at_32 ⟨0, ⟨hP, hD⟩⟩
    · have tc_3 : x_2.toInt ≤ i.toInt := v_nlt c_3
      have rw3_0 := v_rng i
      refine lv_aload_n hx hb dX12_at_19 rfl (lv_at hl 0 rfl) ?_
      refine lv_iconst (v := 1) hx hb dX12_at_20 (by decide) ?_
      refine va_put (D := (dC, dI)) (ci := 12) (v := .int 1) (ty := .int) (C := RX12) (T := TX12) (N := 40) hx hb hts in_X12 tyX12 tyX12_ok nmX12 hown hK hP hD hS 0 rfl rfl 25 (by decide) (hts (.fieldLink RX12 85 "TextMenderModel" "thrown" "I") (List.mem_of_getElem? (i := 1) rfl)) (fun _ h9 => h9) rfl (by decide +kernel) rfl rfl (Nat.le_of_ble_eq_true rfl) dX12_at_21 (kW (wn := [(oM, .inr (12, [.ref mT, .int zt, .ref mS, .ref mX, .int zp, .int zf, .ref mL, .ref mB, .ref mD, .ref m1, .ref m2, .int zh, .ref mR, .int zr, .ref x1, .ref x2, .ref x3, .int zc, .ref mH, .int zy, .int za, .int zb, .int zs, .int zq, .int zw, .int 1, .ref mY, .int zn, .ref mE, .int zm, .int zl, .ref mW, .int zk, .ref mO, .int zd, .ref y1, .ref y2, .ref y3, .ref y4, .ref mZ])), (mS, .inl (cI, 21, .inl eS)), (mX, .inl (cI, 6300, .inl eX))]) rfl (fun H locs hPn hDn hSn => ?_))
      clear hP hD hS
      have hP := hPn
      have hD := hDn
      have hS := hSn
      clear hPn hDn hSn
      refine lv_iconst (v := 0) hx hb dX12_at_24 (by decide) ?_
      exact kl_i (v := 0) hQQ hx hb hr hlocks hS dX12_at_25 ⟨1, ⟨hP, hD⟩⟩

set_option maxHeartbeats 40000000 in
set_option maxRecDepth 100000 in
theorem y_where (l : Launch) (dC : Nat → ClassId) (dI : Nat → Nat → Nat) (cI cS : ClassId) (sz : Nat) (oM : Nat) (mT : Nat) (mS : Nat) (mX : Nat) (mL : Nat) (mB : Nat) (mD : Nat) (m1 : Nat) (m2 : Nat) (mR : Nat) (x1 : Nat) (x2 : Nat) (x3 : Nat) (mH : Nat) (mY : Nat) (mE : Nat) (mW : Nat) (mO : Nat) (y1 : Nat) (y2 : Nat) (y3 : Nat) (y4 : Nat) (mZ : Nat) (zt : Int32) (zp : Int32) (zf : Int32) (zh : Int32) (zr : Int32) (zc : Int32) (zy : Int32) (za : Int32) (zb : Int32) (zs : Int32) (zq : Int32) (zw : Int32) (ze : Int32) (zn : Int32) (zm : Int32) (zl : Int32) (zk : Int32) (zd : Int32) (g_zt : 0 ≤ zt.toInt ∧ zt.toInt ≤ 900) (g_zp : 0 ≤ zp.toInt ∧ zp.toInt ≤ 20) (g_zf : 0 ≤ zf.toInt ∧ zf.toInt ≤ 19) (g_zh : 0 ≤ zh.toInt ∧ zh.toInt ≤ 6) (g_zr : 0 ≤ zr.toInt ∧ zr.toInt ≤ 258) (g_zc : 0 ≤ zc.toInt ∧ zc.toInt ≤ 300) (g_zy : 0 ≤ zy.toInt ∧ zy.toInt ≤ 65536) (g_za : 0 ≤ za.toInt ∧ za.toInt ≤ 5) (g_zb : 0 ≤ zb.toInt ∧ zb.toInt ≤ 5) (g_zs : 0 ≤ zs.toInt ∧ zs.toInt ≤ 2000000) (g_zq : -1 ≤ zq.toInt ∧ zq.toInt ≤ 2000000) (g_zn : 0 ≤ zn.toInt ∧ zn.toInt ≤ 2600) (g_zm : 0 ≤ zm.toInt ∧ zm.toInt ≤ 2600) (g_zk : 0 ≤ zk.toInt ∧ zk.toInt ≤ 300) (hzs : zs.toInt ≤ 1000000) : kMi l yX12_where wsX12_where ({ frames := 0, cells := 0, slots := 0, locals := 0 } : Room) [.ref oM] sz (dC, dI) vwCl [(cI, .int), (cS, .short)] [(oM, .inr (12, [.ref mT, .int zt, .ref mS, .ref mX, .int zp, .int zf, .ref mL, .ref mB, .ref mD, .ref m1, .ref m2, .int zh, .ref mR, .int zr, .ref x1, .ref x2, .ref x3, .int zc, .ref mH, .int zy, .int za, .int zb, .int zs, .int zq, .int zw, .int ze, .ref mY, .int zn, .ref mE, .int zm, .int zl, .ref mW, .int zk, .ref mO, .int zd, .ref y1, .ref y2, .ref y3, .ref y4, .ref mZ]))] (fun _ => True) 0 0 (fun (A : Nat → Prop) (r : Int32) (hh9 : Heap) => ∃ (ze' : Int32), kPD (dC, dI) vwCl A [(oM, .inr (12, [.ref mT, .int zt, .ref mS, .ref mX, .int zp, .int zf, .ref mL, .ref mB, .ref mD, .ref m1, .ref m2, .int zh, .ref mR, .int zr, .ref x1, .ref x2, .ref x3, .int zc, .ref mH, .int zy, .int za, .int zb, .int zs, .int zq, .int zw, .int ze', .ref mY, .int zn, .ref mE, .int zm, .int zl, .ref mW, .int zk, .ref mO, .int zd, .ref y1, .ref y2, .ref y3, .ref y4, .ref mZ]))] hh9 ∧ (r = zw)) := by
  refine kMi_of (cc := cX12_where) (maxL := 1) (ret := (some .int)) (lv := [(0, .ref oM)]) (by decide +kernel) rfl rfl (Nat.le_of_ble_eq_true rfl) ?_
  intro p e s m below meth c A QQ ls hx hb hr hts hml hown hlocks hA hQQ hK hX hP hD hS hl
  have hown : s.vm.findClass RX12 = some m.cls := hown
  have hcf := k_cf hx hb hml hown hts
  have in_X12 : ∀ w ∈ wsX120, w ∈ wsX12_where := fun _ h => List.mem_cons_of_mem _ (List.mem_append_right _ (h))
  replace g_zt := hid g_zt
  replace g_zp := hid g_zp
  replace g_zf := hid g_zf
  replace g_zh := hid g_zh
  replace g_zr := hid g_zr
  replace g_zc := hid g_zc
  replace g_zy := hid g_zy
  replace g_za := hid g_za
  replace g_zb := hid g_zb
  replace g_zs := hid g_zs
  replace g_zq := hid g_zq
  replace g_zn := hid g_zn
  replace g_zm := hid g_zm
  replace g_zk := hid g_zk
  refine lv_aload_n hx hb dX12_where_0 rfl (lv_at hl 0 rfl) ?_
  refine lv_iconst (v := 0) hx hb dX12_where_1 (by decide) ?_
  refine va_put (D := (dC, dI)) (ci := 12) (v := .int 0) (ty := .int) (C := RX12) (T := TX12) (N := 40) hx hb hts in_X12 tyX12 tyX12_ok nmX12 hown hK hP hD hS 0 rfl rfl 25 (by decide) (hts (.fieldLink RX12 85 "TextMenderModel" "thrown" "I") (List.mem_of_getElem? (i := 1) rfl)) (fun _ h9 => h9) rfl (by decide +kernel) rfl rfl (Nat.le_of_ble_eq_true rfl) dX12_where_2 (kW (wn := [(oM, .inr (12, [.ref mT, .int zt, .ref mS, .ref mX, .int zp, .int zf, .ref mL, .ref mB, .ref mD, .ref m1, .ref m2, .int zh, .ref mR, .int zr, .ref x1, .ref x2, .ref x3, .int zc, .ref mH, .int zy, .int za, .int zb, .int zs, .int zq, .int zw, .int 0, .ref mY, .int zn, .ref mE, .int zm, .int zl, .ref mW, .int zk, .ref mO, .int zd, .ref y1, .ref y2, .ref y3, .ref y4, .ref mZ]))]) rfl (fun H locs hPn hDn hSn => ?_))
  clear hP hD hS
  have hP := hPn
  have hD := hDn
  have hS := hSn
  clear hPn hDn hSn
  refine lv_aload_n hx hb dX12_where_5 rfl (lv_at hl 0 rfl) ?_
  refine va_get (D := (dC, dI)) (ci := 12) (v := .int zw) (C := RX12) (T := TX12) (N := 40) hx hb hts in_X12 hown hK hP 0 rfl rfl 24 (by decide) (hts (.fieldLink RX12 55 "TextMenderModel" "where" "I") (List.mem_of_getElem? (i := 2) rfl)) (fun _ h9 => h9) rfl dX12_where_6 ?_
  exact kl_i (v := zw) hQQ hx hb hr hlocks hS dX12_where_9 ⟨0, ⟨hP, hD⟩, rfl⟩

end

/-! 54.a.rows -/
section
set_option maxRecDepth 100000 in
theorem dA174_cX12_size : kDec cX12_size [(0, .aload_n 0, 1), (1, .iconst 0, 1), (2, .putfield 85, 3), (5, .aload_n 0, 1), (6, .iconst (-1), 1), (7, .putfield 55, 3), (10, .iload_n 1, 1), (11, .invokestatic 158, 3), (14, .ifCond .ne 5, 3), (19, .aload_n 0, 1), (20, .iload_n 1, 1), (21, .aload_n 0, 1), (22, .getfield 16, 3), (25, .aload_n 0, 1), (26, .getfield 13, 3), (29, .iconst 0, 1), (30, .iaload, 1), (31, .invokevirtual 127, 3), (34, .ifCond .ne 13, 3), (47, .aload_n 0, 1), (48, .getfield 91, 3), (51, .ireturn, 1), (37, .aload_n 0, 1), (38, .aload_n 0, 1)] = true := by decide +kernel
theorem dX12_size_0 : decode cX12_size 0 = .ok (.aload_n 0, 1) := kDec_at dA174_cX12_size 0 rfl
theorem dX12_size_1 : decode cX12_size 1 = .ok (.iconst 0, 1) := kDec_at dA174_cX12_size 1 rfl
theorem dX12_size_2 : decode cX12_size 2 = .ok (.putfield 85, 3) := kDec_at dA174_cX12_size 2 rfl
theorem dX12_size_5 : decode cX12_size 5 = .ok (.aload_n 0, 1) := kDec_at dA174_cX12_size 3 rfl
theorem dX12_size_6 : decode cX12_size 6 = .ok (.iconst (-1), 1) := kDec_at dA174_cX12_size 4 rfl
theorem dX12_size_7 : decode cX12_size 7 = .ok (.putfield 55, 3) := kDec_at dA174_cX12_size 5 rfl
theorem dX12_size_10 : decode cX12_size 10 = .ok (.iload_n 1, 1) := kDec_at dA174_cX12_size 6 rfl
theorem dX12_size_11 : decode cX12_size 11 = .ok (.invokestatic 158, 3) := kDec_at dA174_cX12_size 7 rfl
theorem dX12_size_14 : decode cX12_size 14 = .ok (.ifCond .ne 5, 3) := kDec_at dA174_cX12_size 8 rfl
theorem dX12_size_19 : decode cX12_size 19 = .ok (.aload_n 0, 1) := kDec_at dA174_cX12_size 9 rfl
theorem dX12_size_20 : decode cX12_size 20 = .ok (.iload_n 1, 1) := kDec_at dA174_cX12_size 10 rfl
theorem dX12_size_21 : decode cX12_size 21 = .ok (.aload_n 0, 1) := kDec_at dA174_cX12_size 11 rfl
theorem dX12_size_22 : decode cX12_size 22 = .ok (.getfield 16, 3) := kDec_at dA174_cX12_size 12 rfl
theorem dX12_size_25 : decode cX12_size 25 = .ok (.aload_n 0, 1) := kDec_at dA174_cX12_size 13 rfl
theorem dX12_size_26 : decode cX12_size 26 = .ok (.getfield 13, 3) := kDec_at dA174_cX12_size 14 rfl
theorem dX12_size_29 : decode cX12_size 29 = .ok (.iconst 0, 1) := kDec_at dA174_cX12_size 15 rfl
theorem dX12_size_30 : decode cX12_size 30 = .ok (.iaload, 1) := kDec_at dA174_cX12_size 16 rfl
theorem dX12_size_31 : decode cX12_size 31 = .ok (.invokevirtual 127, 3) := kDec_at dA174_cX12_size 17 rfl
theorem dX12_size_34 : decode cX12_size 34 = .ok (.ifCond .ne 13, 3) := kDec_at dA174_cX12_size 18 rfl
theorem dX12_size_47 : decode cX12_size 47 = .ok (.aload_n 0, 1) := kDec_at dA174_cX12_size 19 rfl
theorem dX12_size_48 : decode cX12_size 48 = .ok (.getfield 91, 3) := kDec_at dA174_cX12_size 20 rfl
theorem dX12_size_51 : decode cX12_size 51 = .ok (.ireturn, 1) := kDec_at dA174_cX12_size 21 rfl
theorem dX12_size_37 : decode cX12_size 37 = .ok (.aload_n 0, 1) := kDec_at dA174_cX12_size 22 rfl
theorem dX12_size_38 : decode cX12_size 38 = .ok (.aload_n 0, 1) := kDec_at dA174_cX12_size 23 rfl
set_option maxRecDepth 20000 in
theorem ggX12_size_X12_isCode : GoodIn wsX12_size wsX12_isCode := goodIn_r _ [10] rfl (by decide +kernel)
set_option maxRecDepth 20000 in
theorem gX12_size_X12_isCode : GoodIn wsX12_size (va_wsS RX12 158 yX12_isCode wsX12_isCode) := goodIn_app (goodIn_r _ [7, 8, 9] rfl (by decide +kernel)) ggX12_size_X12_isCode
set_option maxRecDepth 20000 in
theorem ggX12_size_X12_write : GoodIn wsX12_size wsX12_write := goodIn_r _ [14, 6, 5, 15, 16, 17, 9, 18, 19, 20, 21, 22, 23, 24, 25, 26, 27, 28, 29, 30, 31, 32, 33, 34, 35, 36, 37, 38, 39, 40, 41, 42, 43, 44, 45, 46, 47, 48, 49, 50, 51, 52, 53, 54, 55, 56, 57, 58, 59, 60, 61, 62, 63, 64, 65] rfl (by decide +kernel)
set_option maxRecDepth 20000 in
theorem gX12_size_X12_write : GoodIn wsX12_size (wsV RX12 127 RX12 yX12_write wsX12_write) := goodIn_app (goodIn_r _ [11, 12, 13, 9] rfl (by decide +kernel)) ggX12_size_X12_write
set_option maxRecDepth 100000 in
theorem dA175_cX12_size : kDec cX12_size [(39, .getfield 102, 3), (42, .putfield 55, 3), (45, .iconst (-1), 1), (46, .ireturn, 1), (17, .iconst (-1), 1), (18, .ireturn, 1)] = true := by decide +kernel
theorem dX12_size_39 : decode cX12_size 39 = .ok (.getfield 102, 3) := kDec_at dA175_cX12_size 0 rfl
theorem dX12_size_42 : decode cX12_size 42 = .ok (.putfield 55, 3) := kDec_at dA175_cX12_size 1 rfl
theorem dX12_size_45 : decode cX12_size 45 = .ok (.iconst (-1), 1) := kDec_at dA175_cX12_size 2 rfl
theorem dX12_size_46 : decode cX12_size 46 = .ok (.ireturn, 1) := kDec_at dA175_cX12_size 3 rfl
theorem dX12_size_17 : decode cX12_size 17 = .ok (.iconst (-1), 1) := kDec_at dA175_cX12_size 4 rfl
theorem dX12_size_18 : decode cX12_size 18 = .ok (.ireturn, 1) := kDec_at dA175_cX12_size 5 rfl
set_option maxRecDepth 100000 in
theorem dA176_cX12_byteOf : kDec cX12_byteOf [(0, .aload_n 0, 1), (1, .iconst 0, 1), (2, .putfield 85, 3), (5, .aload_n 0, 1), (6, .iconst (-1), 1), (7, .putfield 55, 3), (10, .iload_n 1, 1), (11, .invokestatic 158, 3), (14, .ifCond .ne 5, 3), (19, .aload_n 0, 1), (20, .iload_n 1, 1), (21, .aload_n 0, 1), (22, .getfield 16, 3), (25, .aload_n 0, 1), (26, .getfield 13, 3), (29, .iconst 0, 1), (30, .iaload, 1), (31, .invokevirtual 127, 3), (34, .ifCond .ne 13, 3), (47, .iload_n 2, 1), (48, .ifCond .lt 20, 3), (68, .iconst (-1), 1), (69, .ireturn, 1), (51, .iload_n 2, 1)] = true := by decide +kernel
theorem dX12_byteOf_0 : decode cX12_byteOf 0 = .ok (.aload_n 0, 1) := kDec_at dA176_cX12_byteOf 0 rfl
theorem dX12_byteOf_1 : decode cX12_byteOf 1 = .ok (.iconst 0, 1) := kDec_at dA176_cX12_byteOf 1 rfl
theorem dX12_byteOf_2 : decode cX12_byteOf 2 = .ok (.putfield 85, 3) := kDec_at dA176_cX12_byteOf 2 rfl
theorem dX12_byteOf_5 : decode cX12_byteOf 5 = .ok (.aload_n 0, 1) := kDec_at dA176_cX12_byteOf 3 rfl
theorem dX12_byteOf_6 : decode cX12_byteOf 6 = .ok (.iconst (-1), 1) := kDec_at dA176_cX12_byteOf 4 rfl
theorem dX12_byteOf_7 : decode cX12_byteOf 7 = .ok (.putfield 55, 3) := kDec_at dA176_cX12_byteOf 5 rfl
theorem dX12_byteOf_10 : decode cX12_byteOf 10 = .ok (.iload_n 1, 1) := kDec_at dA176_cX12_byteOf 6 rfl
theorem dX12_byteOf_11 : decode cX12_byteOf 11 = .ok (.invokestatic 158, 3) := kDec_at dA176_cX12_byteOf 7 rfl
theorem dX12_byteOf_14 : decode cX12_byteOf 14 = .ok (.ifCond .ne 5, 3) := kDec_at dA176_cX12_byteOf 8 rfl
theorem dX12_byteOf_19 : decode cX12_byteOf 19 = .ok (.aload_n 0, 1) := kDec_at dA176_cX12_byteOf 9 rfl
theorem dX12_byteOf_20 : decode cX12_byteOf 20 = .ok (.iload_n 1, 1) := kDec_at dA176_cX12_byteOf 10 rfl
theorem dX12_byteOf_21 : decode cX12_byteOf 21 = .ok (.aload_n 0, 1) := kDec_at dA176_cX12_byteOf 11 rfl
theorem dX12_byteOf_22 : decode cX12_byteOf 22 = .ok (.getfield 16, 3) := kDec_at dA176_cX12_byteOf 12 rfl
theorem dX12_byteOf_25 : decode cX12_byteOf 25 = .ok (.aload_n 0, 1) := kDec_at dA176_cX12_byteOf 13 rfl
theorem dX12_byteOf_26 : decode cX12_byteOf 26 = .ok (.getfield 13, 3) := kDec_at dA176_cX12_byteOf 14 rfl
theorem dX12_byteOf_29 : decode cX12_byteOf 29 = .ok (.iconst 0, 1) := kDec_at dA176_cX12_byteOf 15 rfl
theorem dX12_byteOf_30 : decode cX12_byteOf 30 = .ok (.iaload, 1) := kDec_at dA176_cX12_byteOf 16 rfl
theorem dX12_byteOf_31 : decode cX12_byteOf 31 = .ok (.invokevirtual 127, 3) := kDec_at dA176_cX12_byteOf 17 rfl
theorem dX12_byteOf_34 : decode cX12_byteOf 34 = .ok (.ifCond .ne 13, 3) := kDec_at dA176_cX12_byteOf 18 rfl
theorem dX12_byteOf_47 : decode cX12_byteOf 47 = .ok (.iload_n 2, 1) := kDec_at dA176_cX12_byteOf 19 rfl
theorem dX12_byteOf_48 : decode cX12_byteOf 48 = .ok (.ifCond .lt 20, 3) := kDec_at dA176_cX12_byteOf 20 rfl
theorem dX12_byteOf_68 : decode cX12_byteOf 68 = .ok (.iconst (-1), 1) := kDec_at dA176_cX12_byteOf 21 rfl
theorem dX12_byteOf_69 : decode cX12_byteOf 69 = .ok (.ireturn, 1) := kDec_at dA176_cX12_byteOf 22 rfl
theorem dX12_byteOf_51 : decode cX12_byteOf 51 = .ok (.iload_n 2, 1) := kDec_at dA176_cX12_byteOf 23 rfl
set_option maxRecDepth 20000 in
theorem ggX12_byteOf_X12_isCode : GoodIn wsX12_byteOf wsX12_isCode := goodIn_r _ [11] rfl (by decide +kernel)
set_option maxRecDepth 20000 in
theorem gX12_byteOf_X12_isCode : GoodIn wsX12_byteOf (va_wsS RX12 158 yX12_isCode wsX12_isCode) := goodIn_app (goodIn_r _ [8, 9, 10] rfl (by decide +kernel)) ggX12_byteOf_X12_isCode
set_option maxRecDepth 20000 in
theorem ggX12_byteOf_X12_write : GoodIn wsX12_byteOf wsX12_write := goodIn_r _ [15, 6, 5, 16, 17, 18, 10, 19, 20, 21, 22, 23, 24, 25, 7, 26, 27, 28, 29, 30, 31, 32, 33, 34, 35, 36, 37, 38, 39, 40, 41, 42, 43, 44, 45, 46, 47, 48, 49, 50, 51, 52, 53, 54, 55, 56, 57, 58, 59, 60, 61, 62, 63, 64, 65] rfl (by decide +kernel)
set_option maxRecDepth 20000 in
theorem gX12_byteOf_X12_write : GoodIn wsX12_byteOf (wsV RX12 127 RX12 yX12_write wsX12_write) := goodIn_app (goodIn_r _ [12, 13, 14, 10] rfl (by decide +kernel)) ggX12_byteOf_X12_write
set_option maxRecDepth 100000 in
theorem dA177_cX12_byteOf : kDec cX12_byteOf [(52, .aload_n 0, 1), (53, .getfield 91, 3), (56, .if_icmp .ge 12, 3), (59, .aload_n 0, 1), (60, .getfield 58, 3), (63, .iload_n 2, 1), (64, .iaload, 1), (65, .goto 4, 3), (37, .aload_n 0, 1), (38, .aload_n 0, 1), (39, .getfield 102, 3), (42, .putfield 55, 3), (45, .iconst (-1), 1), (46, .ireturn, 1), (17, .iconst (-1), 1), (18, .ireturn, 1)] = true := by decide +kernel
theorem dX12_byteOf_52 : decode cX12_byteOf 52 = .ok (.aload_n 0, 1) := kDec_at dA177_cX12_byteOf 0 rfl
theorem dX12_byteOf_53 : decode cX12_byteOf 53 = .ok (.getfield 91, 3) := kDec_at dA177_cX12_byteOf 1 rfl
theorem dX12_byteOf_56 : decode cX12_byteOf 56 = .ok (.if_icmp .ge 12, 3) := kDec_at dA177_cX12_byteOf 2 rfl
theorem dX12_byteOf_59 : decode cX12_byteOf 59 = .ok (.aload_n 0, 1) := kDec_at dA177_cX12_byteOf 3 rfl
theorem dX12_byteOf_60 : decode cX12_byteOf 60 = .ok (.getfield 58, 3) := kDec_at dA177_cX12_byteOf 4 rfl
theorem dX12_byteOf_63 : decode cX12_byteOf 63 = .ok (.iload_n 2, 1) := kDec_at dA177_cX12_byteOf 5 rfl
theorem dX12_byteOf_64 : decode cX12_byteOf 64 = .ok (.iaload, 1) := kDec_at dA177_cX12_byteOf 6 rfl
theorem dX12_byteOf_65 : decode cX12_byteOf 65 = .ok (.goto 4, 3) := kDec_at dA177_cX12_byteOf 7 rfl
theorem dX12_byteOf_37 : decode cX12_byteOf 37 = .ok (.aload_n 0, 1) := kDec_at dA177_cX12_byteOf 8 rfl
theorem dX12_byteOf_38 : decode cX12_byteOf 38 = .ok (.aload_n 0, 1) := kDec_at dA177_cX12_byteOf 9 rfl
theorem dX12_byteOf_39 : decode cX12_byteOf 39 = .ok (.getfield 102, 3) := kDec_at dA177_cX12_byteOf 10 rfl
theorem dX12_byteOf_42 : decode cX12_byteOf 42 = .ok (.putfield 55, 3) := kDec_at dA177_cX12_byteOf 11 rfl
theorem dX12_byteOf_45 : decode cX12_byteOf 45 = .ok (.iconst (-1), 1) := kDec_at dA177_cX12_byteOf 12 rfl
theorem dX12_byteOf_46 : decode cX12_byteOf 46 = .ok (.ireturn, 1) := kDec_at dA177_cX12_byteOf 13 rfl
theorem dX12_byteOf_17 : decode cX12_byteOf 17 = .ok (.iconst (-1), 1) := kDec_at dA177_cX12_byteOf 14 rfl
theorem dX12_byteOf_18 : decode cX12_byteOf 18 = .ok (.ireturn, 1) := kDec_at dA177_cX12_byteOf 15 rfl
set_option maxRecDepth 100000 in
theorem dA178_cX12_canCome : kDec cX12_canCome [(0, .iload_n 1, 1), (1, .ifCond .eq 8, 3), (9, .iload_n 2, 1), (10, .sipush 128, 3), (13, .if_icmp .ge 7, 3), (20, .iconst 0, 1), (21, .ireturn, 1), (16, .iconst 1, 1), (17, .goto 4, 3), (4, .iload_n 1, 1), (5, .iconst 3, 1), (6, .if_icmp .ne 16, 3), (22, .iload_n 1, 1), (23, .iconst 1, 1), (24, .if_icmp .ne 5, 3), (29, .iload_n 1, 1), (30, .iconst 2, 1), (31, .if_icmp .ne 30, 3), (61, .aload_n 0, 1), (62, .getfield 19, 3), (65, .sipush 256, 3), (68, .iload_n 1, 1), (69, .iconst 4, 1), (70, .isub, 1)] = true := by decide +kernel
theorem dX12_canCome_0 : decode cX12_canCome 0 = .ok (.iload_n 1, 1) := kDec_at dA178_cX12_canCome 0 rfl
theorem dX12_canCome_1 : decode cX12_canCome 1 = .ok (.ifCond .eq 8, 3) := kDec_at dA178_cX12_canCome 1 rfl
theorem dX12_canCome_9 : decode cX12_canCome 9 = .ok (.iload_n 2, 1) := kDec_at dA178_cX12_canCome 2 rfl
theorem dX12_canCome_10 : decode cX12_canCome 10 = .ok (.sipush 128, 3) := kDec_at dA178_cX12_canCome 3 rfl
theorem dX12_canCome_13 : decode cX12_canCome 13 = .ok (.if_icmp .ge 7, 3) := kDec_at dA178_cX12_canCome 4 rfl
theorem dX12_canCome_20 : decode cX12_canCome 20 = .ok (.iconst 0, 1) := kDec_at dA178_cX12_canCome 5 rfl
theorem dX12_canCome_21 : decode cX12_canCome 21 = .ok (.ireturn, 1) := kDec_at dA178_cX12_canCome 6 rfl
theorem dX12_canCome_16 : decode cX12_canCome 16 = .ok (.iconst 1, 1) := kDec_at dA178_cX12_canCome 7 rfl
theorem dX12_canCome_17 : decode cX12_canCome 17 = .ok (.goto 4, 3) := kDec_at dA178_cX12_canCome 8 rfl
theorem dX12_canCome_4 : decode cX12_canCome 4 = .ok (.iload_n 1, 1) := kDec_at dA178_cX12_canCome 9 rfl
theorem dX12_canCome_5 : decode cX12_canCome 5 = .ok (.iconst 3, 1) := kDec_at dA178_cX12_canCome 10 rfl
theorem dX12_canCome_6 : decode cX12_canCome 6 = .ok (.if_icmp .ne 16, 3) := kDec_at dA178_cX12_canCome 11 rfl
theorem dX12_canCome_22 : decode cX12_canCome 22 = .ok (.iload_n 1, 1) := kDec_at dA178_cX12_canCome 12 rfl
theorem dX12_canCome_23 : decode cX12_canCome 23 = .ok (.iconst 1, 1) := kDec_at dA178_cX12_canCome 13 rfl
theorem dX12_canCome_24 : decode cX12_canCome 24 = .ok (.if_icmp .ne 5, 3) := kDec_at dA178_cX12_canCome 14 rfl
theorem dX12_canCome_29 : decode cX12_canCome 29 = .ok (.iload_n 1, 1) := kDec_at dA178_cX12_canCome 15 rfl
theorem dX12_canCome_30 : decode cX12_canCome 30 = .ok (.iconst 2, 1) := kDec_at dA178_cX12_canCome 16 rfl
theorem dX12_canCome_31 : decode cX12_canCome 31 = .ok (.if_icmp .ne 30, 3) := kDec_at dA178_cX12_canCome 17 rfl
theorem dX12_canCome_61 : decode cX12_canCome 61 = .ok (.aload_n 0, 1) := kDec_at dA178_cX12_canCome 18 rfl
theorem dX12_canCome_62 : decode cX12_canCome 62 = .ok (.getfield 19, 3) := kDec_at dA178_cX12_canCome 19 rfl
theorem dX12_canCome_65 : decode cX12_canCome 65 = .ok (.sipush 256, 3) := kDec_at dA178_cX12_canCome 20 rfl
theorem dX12_canCome_68 : decode cX12_canCome 68 = .ok (.iload_n 1, 1) := kDec_at dA178_cX12_canCome 21 rfl
theorem dX12_canCome_69 : decode cX12_canCome 69 = .ok (.iconst 4, 1) := kDec_at dA178_cX12_canCome 22 rfl
theorem dX12_canCome_70 : decode cX12_canCome 70 = .ok (.isub, 1) := kDec_at dA178_cX12_canCome 23 rfl
set_option maxRecDepth 100000 in
theorem dA179_cX12_canCome : kDec cX12_canCome [(71, .imul, 1), (72, .iload_n 2, 1), (73, .iadd, 1), (74, .iaload, 1), (75, .iconst (-1), 1), (76, .if_icmp .eq 7, 3), (83, .iconst 0, 1), (84, .ireturn, 1), (79, .iconst 1, 1), (80, .goto 4, 3), (34, .iload_n 2, 1), (35, .sipush 192, 3), (38, .if_icmp .lt 17, 3), (55, .iconst 1, 1), (56, .goto 4, 3), (60, .ireturn, 1), (41, .iload_n 2, 1), (42, .sipush 193, 3), (45, .if_icmp .le 14, 3), (59, .iconst 0, 1), (48, .iload_n 2, 1), (49, .sipush 240, 3), (52, .if_icmp .ge 7, 3), (27, .iconst 1, 1)] = true := by decide +kernel
theorem dX12_canCome_71 : decode cX12_canCome 71 = .ok (.imul, 1) := kDec_at dA179_cX12_canCome 0 rfl
theorem dX12_canCome_72 : decode cX12_canCome 72 = .ok (.iload_n 2, 1) := kDec_at dA179_cX12_canCome 1 rfl
theorem dX12_canCome_73 : decode cX12_canCome 73 = .ok (.iadd, 1) := kDec_at dA179_cX12_canCome 2 rfl
theorem dX12_canCome_74 : decode cX12_canCome 74 = .ok (.iaload, 1) := kDec_at dA179_cX12_canCome 3 rfl
theorem dX12_canCome_75 : decode cX12_canCome 75 = .ok (.iconst (-1), 1) := kDec_at dA179_cX12_canCome 4 rfl
theorem dX12_canCome_76 : decode cX12_canCome 76 = .ok (.if_icmp .eq 7, 3) := kDec_at dA179_cX12_canCome 5 rfl
theorem dX12_canCome_83 : decode cX12_canCome 83 = .ok (.iconst 0, 1) := kDec_at dA179_cX12_canCome 6 rfl
theorem dX12_canCome_84 : decode cX12_canCome 84 = .ok (.ireturn, 1) := kDec_at dA179_cX12_canCome 7 rfl
theorem dX12_canCome_79 : decode cX12_canCome 79 = .ok (.iconst 1, 1) := kDec_at dA179_cX12_canCome 8 rfl
theorem dX12_canCome_80 : decode cX12_canCome 80 = .ok (.goto 4, 3) := kDec_at dA179_cX12_canCome 9 rfl
theorem dX12_canCome_34 : decode cX12_canCome 34 = .ok (.iload_n 2, 1) := kDec_at dA179_cX12_canCome 10 rfl
theorem dX12_canCome_35 : decode cX12_canCome 35 = .ok (.sipush 192, 3) := kDec_at dA179_cX12_canCome 11 rfl
theorem dX12_canCome_38 : decode cX12_canCome 38 = .ok (.if_icmp .lt 17, 3) := kDec_at dA179_cX12_canCome 12 rfl
theorem dX12_canCome_55 : decode cX12_canCome 55 = .ok (.iconst 1, 1) := kDec_at dA179_cX12_canCome 13 rfl
theorem dX12_canCome_56 : decode cX12_canCome 56 = .ok (.goto 4, 3) := kDec_at dA179_cX12_canCome 14 rfl
theorem dX12_canCome_60 : decode cX12_canCome 60 = .ok (.ireturn, 1) := kDec_at dA179_cX12_canCome 15 rfl
theorem dX12_canCome_41 : decode cX12_canCome 41 = .ok (.iload_n 2, 1) := kDec_at dA179_cX12_canCome 16 rfl
theorem dX12_canCome_42 : decode cX12_canCome 42 = .ok (.sipush 193, 3) := kDec_at dA179_cX12_canCome 17 rfl
theorem dX12_canCome_45 : decode cX12_canCome 45 = .ok (.if_icmp .le 14, 3) := kDec_at dA179_cX12_canCome 18 rfl
theorem dX12_canCome_59 : decode cX12_canCome 59 = .ok (.iconst 0, 1) := kDec_at dA179_cX12_canCome 19 rfl
theorem dX12_canCome_48 : decode cX12_canCome 48 = .ok (.iload_n 2, 1) := kDec_at dA179_cX12_canCome 20 rfl
theorem dX12_canCome_49 : decode cX12_canCome 49 = .ok (.sipush 240, 3) := kDec_at dA179_cX12_canCome 21 rfl
theorem dX12_canCome_52 : decode cX12_canCome 52 = .ok (.if_icmp .ge 7, 3) := kDec_at dA179_cX12_canCome 22 rfl
theorem dX12_canCome_27 : decode cX12_canCome 27 = .ok (.iconst 1, 1) := kDec_at dA179_cX12_canCome 23 rfl
set_option maxRecDepth 100000 in
theorem dA180_cX12_canCome : kDec cX12_canCome [(28, .ireturn, 1)] = true := by decide +kernel
theorem dX12_canCome_28 : decode cX12_canCome 28 = .ok (.ireturn, 1) := kDec_at dA180_cX12_canCome 0 rfl
set_option maxRecDepth 100000 in
theorem dA181_cX12_safe : kDec cX12_safe [(0, .aload_n 0, 1), (1, .iconst 0, 1), (2, .putfield 85, 3), (5, .aload_n 0, 1), (6, .iconst (-1), 1), (7, .putfield 55, 3), (10, .iload_n 1, 1), (11, .invokestatic 158, 3), (14, .ifCond .eq 10, 3), (24, .iconst (-1), 1), (25, .ireturn, 1), (17, .iload_n 2, 1), (18, .invokestatic 158, 3), (21, .ifCond .ne 5, 3), (26, .iload_n 1, 1), (27, .iload_n 2, 1), (28, .if_icmp .ne 5, 3), (33, .iconst 0, 1), (34, .istore_n 3, 1), (35, .iload_n 3, 1), (36, .sipush 256, 3), (39, .if_icmp .ge 97, 3), (136, .iconst 1, 1), (137, .ireturn, 1)] = true := by decide +kernel
theorem dX12_safe_0 : decode cX12_safe 0 = .ok (.aload_n 0, 1) := kDec_at dA181_cX12_safe 0 rfl
theorem dX12_safe_1 : decode cX12_safe 1 = .ok (.iconst 0, 1) := kDec_at dA181_cX12_safe 1 rfl
theorem dX12_safe_2 : decode cX12_safe 2 = .ok (.putfield 85, 3) := kDec_at dA181_cX12_safe 2 rfl
theorem dX12_safe_5 : decode cX12_safe 5 = .ok (.aload_n 0, 1) := kDec_at dA181_cX12_safe 3 rfl
theorem dX12_safe_6 : decode cX12_safe 6 = .ok (.iconst (-1), 1) := kDec_at dA181_cX12_safe 4 rfl
theorem dX12_safe_7 : decode cX12_safe 7 = .ok (.putfield 55, 3) := kDec_at dA181_cX12_safe 5 rfl
theorem dX12_safe_10 : decode cX12_safe 10 = .ok (.iload_n 1, 1) := kDec_at dA181_cX12_safe 6 rfl
theorem dX12_safe_11 : decode cX12_safe 11 = .ok (.invokestatic 158, 3) := kDec_at dA181_cX12_safe 7 rfl
theorem dX12_safe_14 : decode cX12_safe 14 = .ok (.ifCond .eq 10, 3) := kDec_at dA181_cX12_safe 8 rfl
theorem dX12_safe_24 : decode cX12_safe 24 = .ok (.iconst (-1), 1) := kDec_at dA181_cX12_safe 9 rfl
theorem dX12_safe_25 : decode cX12_safe 25 = .ok (.ireturn, 1) := kDec_at dA181_cX12_safe 10 rfl
theorem dX12_safe_17 : decode cX12_safe 17 = .ok (.iload_n 2, 1) := kDec_at dA181_cX12_safe 11 rfl
theorem dX12_safe_18 : decode cX12_safe 18 = .ok (.invokestatic 158, 3) := kDec_at dA181_cX12_safe 12 rfl
theorem dX12_safe_21 : decode cX12_safe 21 = .ok (.ifCond .ne 5, 3) := kDec_at dA181_cX12_safe 13 rfl
theorem dX12_safe_26 : decode cX12_safe 26 = .ok (.iload_n 1, 1) := kDec_at dA181_cX12_safe 14 rfl
theorem dX12_safe_27 : decode cX12_safe 27 = .ok (.iload_n 2, 1) := kDec_at dA181_cX12_safe 15 rfl
theorem dX12_safe_28 : decode cX12_safe 28 = .ok (.if_icmp .ne 5, 3) := kDec_at dA181_cX12_safe 16 rfl
theorem dX12_safe_33 : decode cX12_safe 33 = .ok (.iconst 0, 1) := kDec_at dA181_cX12_safe 17 rfl
theorem dX12_safe_34 : decode cX12_safe 34 = .ok (.istore_n 3, 1) := kDec_at dA181_cX12_safe 18 rfl
theorem dX12_safe_35 : decode cX12_safe 35 = .ok (.iload_n 3, 1) := kDec_at dA181_cX12_safe 19 rfl
theorem dX12_safe_36 : decode cX12_safe 36 = .ok (.sipush 256, 3) := kDec_at dA181_cX12_safe 20 rfl
theorem dX12_safe_39 : decode cX12_safe 39 = .ok (.if_icmp .ge 97, 3) := kDec_at dA181_cX12_safe 21 rfl
theorem dX12_safe_136 : decode cX12_safe 136 = .ok (.iconst 1, 1) := kDec_at dA181_cX12_safe 22 rfl
theorem dX12_safe_137 : decode cX12_safe 137 = .ok (.ireturn, 1) := kDec_at dA181_cX12_safe 23 rfl
set_option maxRecDepth 20000 in
theorem ggX12_safe_X12_isCode : GoodIn wsX12_safe wsX12_isCode := goodIn_r _ [7] rfl (by decide +kernel)
set_option maxRecDepth 20000 in
theorem gX12_safe_X12_isCode : GoodIn wsX12_safe (va_wsS RX12 158 yX12_isCode wsX12_isCode) := goodIn_app (goodIn_r _ [4, 5, 6] rfl (by decide +kernel)) ggX12_safe_X12_isCode
set_option maxRecDepth 100000 in
theorem dA182_cX12_safe : kDec cX12_safe [(42, .aload_n 0, 1), (43, .iload_n 1, 1), (44, .iload_n 3, 1), (45, .invokevirtual 177, 3), (48, .ifCond .ne 6, 3), (54, .iload_n 2, 1), (55, .iconst 1, 1), (56, .if_icmp .eq 60, 3), (116, .iconst 1, 1), (117, .goto 4, 3), (121, .istore 4, 2), (123, .iload 4, 2), (125, .ifCond .ne 5, 3), (130, .iinc 3 1, 3), (133, .goto (-98), 3), (59, .iload_n 2, 1), (60, .ifCond .eq 8, 3), (68, .iload_n 3, 1), (69, .sipush 128, 3), (72, .if_icmp .lt 44, 3), (75, .iload_n 2, 1), (76, .iconst 3, 1), (77, .if_icmp .ne 16, 3), (93, .iload_n 2, 1)] = true := by decide +kernel
theorem dX12_safe_42 : decode cX12_safe 42 = .ok (.aload_n 0, 1) := kDec_at dA182_cX12_safe 0 rfl
theorem dX12_safe_43 : decode cX12_safe 43 = .ok (.iload_n 1, 1) := kDec_at dA182_cX12_safe 1 rfl
theorem dX12_safe_44 : decode cX12_safe 44 = .ok (.iload_n 3, 1) := kDec_at dA182_cX12_safe 2 rfl
theorem dX12_safe_45 : decode cX12_safe 45 = .ok (.invokevirtual 177, 3) := kDec_at dA182_cX12_safe 3 rfl
theorem dX12_safe_48 : decode cX12_safe 48 = .ok (.ifCond .ne 6, 3) := kDec_at dA182_cX12_safe 4 rfl
theorem dX12_safe_54 : decode cX12_safe 54 = .ok (.iload_n 2, 1) := kDec_at dA182_cX12_safe 5 rfl
theorem dX12_safe_55 : decode cX12_safe 55 = .ok (.iconst 1, 1) := kDec_at dA182_cX12_safe 6 rfl
theorem dX12_safe_56 : decode cX12_safe 56 = .ok (.if_icmp .eq 60, 3) := kDec_at dA182_cX12_safe 7 rfl
theorem dX12_safe_116 : decode cX12_safe 116 = .ok (.iconst 1, 1) := kDec_at dA182_cX12_safe 8 rfl
theorem dX12_safe_117 : decode cX12_safe 117 = .ok (.goto 4, 3) := kDec_at dA182_cX12_safe 9 rfl
theorem dX12_safe_121 : decode cX12_safe 121 = .ok (.istore 4, 2) := kDec_at dA182_cX12_safe 10 rfl
theorem dX12_safe_123 : decode cX12_safe 123 = .ok (.iload 4, 2) := kDec_at dA182_cX12_safe 11 rfl
theorem dX12_safe_125 : decode cX12_safe 125 = .ok (.ifCond .ne 5, 3) := kDec_at dA182_cX12_safe 12 rfl
theorem dX12_safe_130 : decode cX12_safe 130 = .ok (.iinc 3 1, 3) := kDec_at dA182_cX12_safe 13 rfl
theorem dX12_safe_133 : decode cX12_safe 133 = .ok (.goto (-98), 3) := kDec_at dA182_cX12_safe 14 rfl
theorem dX12_safe_59 : decode cX12_safe 59 = .ok (.iload_n 2, 1) := kDec_at dA182_cX12_safe 15 rfl
theorem dX12_safe_60 : decode cX12_safe 60 = .ok (.ifCond .eq 8, 3) := kDec_at dA182_cX12_safe 16 rfl
theorem dX12_safe_68 : decode cX12_safe 68 = .ok (.iload_n 3, 1) := kDec_at dA182_cX12_safe 17 rfl
theorem dX12_safe_69 : decode cX12_safe 69 = .ok (.sipush 128, 3) := kDec_at dA182_cX12_safe 18 rfl
theorem dX12_safe_72 : decode cX12_safe 72 = .ok (.if_icmp .lt 44, 3) := kDec_at dA182_cX12_safe 19 rfl
theorem dX12_safe_75 : decode cX12_safe 75 = .ok (.iload_n 2, 1) := kDec_at dA182_cX12_safe 20 rfl
theorem dX12_safe_76 : decode cX12_safe 76 = .ok (.iconst 3, 1) := kDec_at dA182_cX12_safe 21 rfl
theorem dX12_safe_77 : decode cX12_safe 77 = .ok (.if_icmp .ne 16, 3) := kDec_at dA182_cX12_safe 22 rfl
theorem dX12_safe_93 : decode cX12_safe 93 = .ok (.iload_n 2, 1) := kDec_at dA182_cX12_safe 23 rfl
set_option maxRecDepth 20000 in
theorem ggX12_safe_X12_canCome : GoodIn wsX12_safe wsX12_canCome := goodIn_r _ [11, 3, 12, 13, 14, 15, 16, 17, 18, 19, 20, 21, 22, 23, 24, 25, 26, 27, 28, 29, 30, 31, 32, 33, 34, 35, 36, 37, 38, 39, 40, 41, 42, 43, 44, 45, 46, 47, 48, 49, 50, 51] rfl (by decide +kernel)
set_option maxRecDepth 20000 in
theorem gX12_safe_X12_canCome : GoodIn wsX12_safe (wsV RX12 177 RX12 yX12_canCome wsX12_canCome) := goodIn_app (goodIn_r _ [8, 9, 10, 6] rfl (by decide +kernel)) ggX12_safe_X12_canCome
set_option maxRecDepth 100000 in
theorem dA183_cX12_safe : kDec cX12_safe [(94, .iconst 3, 1), (95, .if_icmp .le 25, 3), (120, .iconst 0, 1), (128, .iconst 0, 1), (129, .ireturn, 1), (63, .iload_n 2, 1), (64, .iconst 2, 1), (65, .if_icmp .ne 10, 3), (98, .aload_n 0, 1), (99, .getfield 19, 3), (102, .sipush 256, 3), (105, .iload_n 2, 1), (106, .iconst 4, 1), (107, .isub, 1), (108, .imul, 1), (109, .iload_n 3, 1), (110, .iadd, 1), (111, .iaload, 1), (112, .iconst (-1), 1), (113, .if_icmp .eq 7, 3), (80, .iload_n 3, 1), (81, .sipush 128, 3), (84, .if_icmp .ge 9, 3), (87, .iload_n 3, 1)] = true := by decide +kernel
theorem dX12_safe_94 : decode cX12_safe 94 = .ok (.iconst 3, 1) := kDec_at dA183_cX12_safe 0 rfl
theorem dX12_safe_95 : decode cX12_safe 95 = .ok (.if_icmp .le 25, 3) := kDec_at dA183_cX12_safe 1 rfl
theorem dX12_safe_120 : decode cX12_safe 120 = .ok (.iconst 0, 1) := kDec_at dA183_cX12_safe 2 rfl
theorem dX12_safe_128 : decode cX12_safe 128 = .ok (.iconst 0, 1) := kDec_at dA183_cX12_safe 3 rfl
theorem dX12_safe_129 : decode cX12_safe 129 = .ok (.ireturn, 1) := kDec_at dA183_cX12_safe 4 rfl
theorem dX12_safe_63 : decode cX12_safe 63 = .ok (.iload_n 2, 1) := kDec_at dA183_cX12_safe 5 rfl
theorem dX12_safe_64 : decode cX12_safe 64 = .ok (.iconst 2, 1) := kDec_at dA183_cX12_safe 6 rfl
theorem dX12_safe_65 : decode cX12_safe 65 = .ok (.if_icmp .ne 10, 3) := kDec_at dA183_cX12_safe 7 rfl
theorem dX12_safe_98 : decode cX12_safe 98 = .ok (.aload_n 0, 1) := kDec_at dA183_cX12_safe 8 rfl
theorem dX12_safe_99 : decode cX12_safe 99 = .ok (.getfield 19, 3) := kDec_at dA183_cX12_safe 9 rfl
theorem dX12_safe_102 : decode cX12_safe 102 = .ok (.sipush 256, 3) := kDec_at dA183_cX12_safe 10 rfl
theorem dX12_safe_105 : decode cX12_safe 105 = .ok (.iload_n 2, 1) := kDec_at dA183_cX12_safe 11 rfl
theorem dX12_safe_106 : decode cX12_safe 106 = .ok (.iconst 4, 1) := kDec_at dA183_cX12_safe 12 rfl
theorem dX12_safe_107 : decode cX12_safe 107 = .ok (.isub, 1) := kDec_at dA183_cX12_safe 13 rfl
theorem dX12_safe_108 : decode cX12_safe 108 = .ok (.imul, 1) := kDec_at dA183_cX12_safe 14 rfl
theorem dX12_safe_109 : decode cX12_safe 109 = .ok (.iload_n 3, 1) := kDec_at dA183_cX12_safe 15 rfl
theorem dX12_safe_110 : decode cX12_safe 110 = .ok (.iadd, 1) := kDec_at dA183_cX12_safe 16 rfl
theorem dX12_safe_111 : decode cX12_safe 111 = .ok (.iaload, 1) := kDec_at dA183_cX12_safe 17 rfl
theorem dX12_safe_112 : decode cX12_safe 112 = .ok (.iconst (-1), 1) := kDec_at dA183_cX12_safe 18 rfl
theorem dX12_safe_113 : decode cX12_safe 113 = .ok (.if_icmp .eq 7, 3) := kDec_at dA183_cX12_safe 19 rfl
theorem dX12_safe_80 : decode cX12_safe 80 = .ok (.iload_n 3, 1) := kDec_at dA183_cX12_safe 20 rfl
theorem dX12_safe_81 : decode cX12_safe 81 = .ok (.sipush 128, 3) := kDec_at dA183_cX12_safe 21 rfl
theorem dX12_safe_84 : decode cX12_safe 84 = .ok (.if_icmp .ge 9, 3) := kDec_at dA183_cX12_safe 22 rfl
theorem dX12_safe_87 : decode cX12_safe 87 = .ok (.iload_n 3, 1) := kDec_at dA183_cX12_safe 23 rfl
set_option maxRecDepth 100000 in
theorem dA184_cX12_safe : kDec cX12_safe [(88, .bipush 38, 2), (90, .if_icmp .ne 26, 3), (51, .goto 79, 3), (31, .iconst 1, 1), (32, .ireturn, 1)] = true := by decide +kernel
theorem dX12_safe_88 : decode cX12_safe 88 = .ok (.bipush 38, 2) := kDec_at dA184_cX12_safe 0 rfl
theorem dX12_safe_90 : decode cX12_safe 90 = .ok (.if_icmp .ne 26, 3) := kDec_at dA184_cX12_safe 1 rfl
theorem dX12_safe_51 : decode cX12_safe 51 = .ok (.goto 79, 3) := kDec_at dA184_cX12_safe 2 rfl
theorem dX12_safe_31 : decode cX12_safe 31 = .ok (.iconst 1, 1) := kDec_at dA184_cX12_safe 3 rfl
theorem dX12_safe_32 : decode cX12_safe 32 = .ok (.ireturn, 1) := kDec_at dA184_cX12_safe 4 rfl
set_option maxRecDepth 100000 in
theorem dA185_cX12_makes : kDec cX12_makes [(0, .aload_n 0, 1), (1, .invokevirtual 171, 3), (4, .iload_n 1, 1), (5, .istore_n 3, 1), (6, .iconst 0, 1), (7, .istore 4, 2), (9, .iload 4, 2), (11, .iload_n 2, 1), (12, .if_icmp .ge 47, 3), (59, .iconst 1, 1), (60, .ireturn, 1), (15, .iload_n 3, 1), (16, .aload_n 0, 1), (17, .getfield 161, 3), (20, .irem, 1), (21, .istore 5, 2), (23, .iload_n 3, 1), (24, .aload_n 0, 1), (25, .getfield 161, 3), (28, .idiv, 1), (29, .istore_n 3, 1), (30, .aload_n 0, 1), (31, .aload_n 0, 1), (32, .getfield 30, 3)] = true := by decide +kernel
theorem dX12_makes_0 : decode cX12_makes 0 = .ok (.aload_n 0, 1) := kDec_at dA185_cX12_makes 0 rfl
theorem dX12_makes_1 : decode cX12_makes 1 = .ok (.invokevirtual 171, 3) := kDec_at dA185_cX12_makes 1 rfl
theorem dX12_makes_4 : decode cX12_makes 4 = .ok (.iload_n 1, 1) := kDec_at dA185_cX12_makes 2 rfl
theorem dX12_makes_5 : decode cX12_makes 5 = .ok (.istore_n 3, 1) := kDec_at dA185_cX12_makes 3 rfl
theorem dX12_makes_6 : decode cX12_makes 6 = .ok (.iconst 0, 1) := kDec_at dA185_cX12_makes 4 rfl
theorem dX12_makes_7 : decode cX12_makes 7 = .ok (.istore 4, 2) := kDec_at dA185_cX12_makes 5 rfl
theorem dX12_makes_9 : decode cX12_makes 9 = .ok (.iload 4, 2) := kDec_at dA185_cX12_makes 6 rfl
theorem dX12_makes_11 : decode cX12_makes 11 = .ok (.iload_n 2, 1) := kDec_at dA185_cX12_makes 7 rfl
theorem dX12_makes_12 : decode cX12_makes 12 = .ok (.if_icmp .ge 47, 3) := kDec_at dA185_cX12_makes 8 rfl
theorem dX12_makes_59 : decode cX12_makes 59 = .ok (.iconst 1, 1) := kDec_at dA185_cX12_makes 9 rfl
theorem dX12_makes_60 : decode cX12_makes 60 = .ok (.ireturn, 1) := kDec_at dA185_cX12_makes 10 rfl
theorem dX12_makes_15 : decode cX12_makes 15 = .ok (.iload_n 3, 1) := kDec_at dA185_cX12_makes 11 rfl
theorem dX12_makes_16 : decode cX12_makes 16 = .ok (.aload_n 0, 1) := kDec_at dA185_cX12_makes 12 rfl
theorem dX12_makes_17 : decode cX12_makes 17 = .ok (.getfield 161, 3) := kDec_at dA185_cX12_makes 13 rfl
theorem dX12_makes_20 : decode cX12_makes 20 = .ok (.irem, 1) := kDec_at dA185_cX12_makes 14 rfl
theorem dX12_makes_21 : decode cX12_makes 21 = .ok (.istore 5, 2) := kDec_at dA185_cX12_makes 15 rfl
theorem dX12_makes_23 : decode cX12_makes 23 = .ok (.iload_n 3, 1) := kDec_at dA185_cX12_makes 16 rfl
theorem dX12_makes_24 : decode cX12_makes 24 = .ok (.aload_n 0, 1) := kDec_at dA185_cX12_makes 17 rfl
theorem dX12_makes_25 : decode cX12_makes 25 = .ok (.getfield 161, 3) := kDec_at dA185_cX12_makes 18 rfl
theorem dX12_makes_28 : decode cX12_makes 28 = .ok (.idiv, 1) := kDec_at dA185_cX12_makes 19 rfl
theorem dX12_makes_29 : decode cX12_makes 29 = .ok (.istore_n 3, 1) := kDec_at dA185_cX12_makes 20 rfl
theorem dX12_makes_30 : decode cX12_makes 30 = .ok (.aload_n 0, 1) := kDec_at dA185_cX12_makes 21 rfl
theorem dX12_makes_31 : decode cX12_makes 31 = .ok (.aload_n 0, 1) := kDec_at dA185_cX12_makes 22 rfl
theorem dX12_makes_32 : decode cX12_makes 32 = .ok (.getfield 30, 3) := kDec_at dA185_cX12_makes 23 rfl
set_option maxRecDepth 20000 in
theorem ggX12_makes_X12_takeText : GoodIn wsX12_makes wsX12_takeText := goodIn_r _ [8, 9, 10, 11, 12, 64, 65, 66, 67, 68, 69, 70, 71, 72, 73, 74, 75, 76, 77, 78, 79, 80, 81, 82, 83, 84, 85, 86, 87, 88, 89, 90, 91, 92, 93, 94, 95, 96, 97, 98, 99, 100, 101, 102, 103] rfl (by decide +kernel)
set_option maxRecDepth 20000 in
theorem gX12_makes_X12_takeText : GoodIn wsX12_makes (wsV RX12 171 RX12 yX12_takeText wsX12_takeText) := goodIn_app (goodIn_r _ [4, 5, 6, 7] rfl (by decide +kernel)) ggX12_makes_X12_takeText
set_option maxRecDepth 100000 in
theorem dA186_cX12_makes : kDec cX12_makes [(35, .iload 5, 2), (37, .iaload, 1), (38, .aload_n 0, 1), (39, .getfield 33, 3), (42, .iload 5, 2), (44, .iaload, 1), (45, .invokevirtual 174, 3), (48, .ifCond .ne 5, 3), (53, .iinc 4 1, 3), (56, .goto (-47), 3), (51, .iconst 0, 1), (52, .ireturn, 1)] = true := by decide +kernel
theorem dX12_makes_35 : decode cX12_makes 35 = .ok (.iload 5, 2) := kDec_at dA186_cX12_makes 0 rfl
theorem dX12_makes_37 : decode cX12_makes 37 = .ok (.iaload, 1) := kDec_at dA186_cX12_makes 1 rfl
theorem dX12_makes_38 : decode cX12_makes 38 = .ok (.aload_n 0, 1) := kDec_at dA186_cX12_makes 2 rfl
theorem dX12_makes_39 : decode cX12_makes 39 = .ok (.getfield 33, 3) := kDec_at dA186_cX12_makes 3 rfl
theorem dX12_makes_42 : decode cX12_makes 42 = .ok (.iload 5, 2) := kDec_at dA186_cX12_makes 4 rfl
theorem dX12_makes_44 : decode cX12_makes 44 = .ok (.iaload, 1) := kDec_at dA186_cX12_makes 5 rfl
theorem dX12_makes_45 : decode cX12_makes 45 = .ok (.invokevirtual 174, 3) := kDec_at dA186_cX12_makes 6 rfl
theorem dX12_makes_48 : decode cX12_makes 48 = .ok (.ifCond .ne 5, 3) := kDec_at dA186_cX12_makes 7 rfl
theorem dX12_makes_53 : decode cX12_makes 53 = .ok (.iinc 4 1, 3) := kDec_at dA186_cX12_makes 8 rfl
theorem dX12_makes_56 : decode cX12_makes 56 = .ok (.goto (-47), 3) := kDec_at dA186_cX12_makes 9 rfl
theorem dX12_makes_51 : decode cX12_makes 51 = .ok (.iconst 0, 1) := kDec_at dA186_cX12_makes 10 rfl
theorem dX12_makes_52 : decode cX12_makes 52 = .ok (.ireturn, 1) := kDec_at dA186_cX12_makes 11 rfl
set_option maxRecDepth 20000 in
theorem ggX12_makes_X12_undoes : GoodIn wsX12_makes wsX12_undoes := goodIn_r _ [16, 11, 10, 17, 18, 19, 20, 21, 22, 23, 7, 24, 25, 26, 27, 28, 29, 30, 31, 32, 33, 34, 35, 36, 37, 38, 39, 40, 41, 42, 43, 44, 45, 46, 47, 48, 49, 50, 51, 52, 53, 54, 55, 56, 57, 58, 59, 60, 61, 62, 63, 64, 65, 66, 67, 68, 69, 70, 71, 72, 73, 74, 75, 76, 77, 78, 79, 80, 81, 82, 83, 84, 85, 86, 87, 88, 89, 90, 91, 92, 93, 94, 95, 96, 97, 98, 99, 100, 101, 102, 103] rfl (by decide +kernel)
set_option maxRecDepth 20000 in
theorem gX12_makes_X12_undoes : GoodIn wsX12_makes (wsV RX12 174 RX12 yX12_undoes wsX12_undoes) := goodIn_app (goodIn_r _ [13, 14, 15, 7] rfl (by decide +kernel)) ggX12_makes_X12_undoes
set_option maxRecDepth 100000 in
theorem dA187_cX12_power : kDec cX12_power [(0, .iconst 1, 1), (1, .istore_n 2, 1), (2, .iconst 0, 1), (3, .istore_n 3, 1), (4, .iload_n 3, 1), (5, .iload_n 1, 1), (6, .if_icmp .ge 13, 3), (19, .iload_n 2, 1), (20, .ireturn, 1), (9, .iload_n 2, 1), (10, .iload_n 0, 1), (11, .imul, 1), (12, .istore_n 2, 1), (13, .iinc 3 1, 3), (16, .goto (-12), 3)] = true := by decide +kernel
theorem dX12_power_0 : decode cX12_power 0 = .ok (.iconst 1, 1) := kDec_at dA187_cX12_power 0 rfl
theorem dX12_power_1 : decode cX12_power 1 = .ok (.istore_n 2, 1) := kDec_at dA187_cX12_power 1 rfl
theorem dX12_power_2 : decode cX12_power 2 = .ok (.iconst 0, 1) := kDec_at dA187_cX12_power 2 rfl
theorem dX12_power_3 : decode cX12_power 3 = .ok (.istore_n 3, 1) := kDec_at dA187_cX12_power 3 rfl
theorem dX12_power_4 : decode cX12_power 4 = .ok (.iload_n 3, 1) := kDec_at dA187_cX12_power 4 rfl
theorem dX12_power_5 : decode cX12_power 5 = .ok (.iload_n 1, 1) := kDec_at dA187_cX12_power 5 rfl
theorem dX12_power_6 : decode cX12_power 6 = .ok (.if_icmp .ge 13, 3) := kDec_at dA187_cX12_power 6 rfl
theorem dX12_power_19 : decode cX12_power 19 = .ok (.iload_n 2, 1) := kDec_at dA187_cX12_power 7 rfl
theorem dX12_power_20 : decode cX12_power 20 = .ok (.ireturn, 1) := kDec_at dA187_cX12_power 8 rfl
theorem dX12_power_9 : decode cX12_power 9 = .ok (.iload_n 2, 1) := kDec_at dA187_cX12_power 9 rfl
theorem dX12_power_10 : decode cX12_power 10 = .ok (.iload_n 0, 1) := kDec_at dA187_cX12_power 10 rfl
theorem dX12_power_11 : decode cX12_power 11 = .ok (.imul, 1) := kDec_at dA187_cX12_power 11 rfl
theorem dX12_power_12 : decode cX12_power 12 = .ok (.istore_n 2, 1) := kDec_at dA187_cX12_power 12 rfl
theorem dX12_power_13 : decode cX12_power 13 = .ok (.iinc 3 1, 3) := kDec_at dA187_cX12_power 13 rfl
theorem dX12_power_16 : decode cX12_power 16 = .ok (.goto (-12), 3) := kDec_at dA187_cX12_power 14 rfl
set_option maxRecDepth 100000 in
theorem dA188_cX12_sortOf : kDec cX12_sortOf [(0, .iload_n 0, 1), (1, .bipush 97, 2), (3, .if_icmp .lt 11, 3), (14, .iload_n 0, 1), (15, .bipush 65, 2), (17, .if_icmp .lt 11, 3), (28, .iload_n 0, 1), (29, .bipush 48, 2), (31, .if_icmp .lt 11, 3), (42, .iload_n 0, 1), (43, .bipush 32, 2), (45, .if_icmp .ne 5, 3), (50, .iload_n 0, 1), (51, .bipush 33, 2), (53, .if_icmp .lt 11, 3), (64, .iload_n 0, 1), (65, .sipush 192, 3), (68, .if_icmp .lt 27, 3), (95, .iload_n 0, 1), (96, .sipush 880, 3), (99, .if_icmp .lt 15, 3), (114, .iconst 0, 1), (115, .ireturn, 1), (56, .iload_n 0, 1)] = true := by decide +kernel
theorem dX12_sortOf_0 : decode cX12_sortOf 0 = .ok (.iload_n 0, 1) := kDec_at dA188_cX12_sortOf 0 rfl
theorem dX12_sortOf_1 : decode cX12_sortOf 1 = .ok (.bipush 97, 2) := kDec_at dA188_cX12_sortOf 1 rfl
theorem dX12_sortOf_3 : decode cX12_sortOf 3 = .ok (.if_icmp .lt 11, 3) := kDec_at dA188_cX12_sortOf 2 rfl
theorem dX12_sortOf_14 : decode cX12_sortOf 14 = .ok (.iload_n 0, 1) := kDec_at dA188_cX12_sortOf 3 rfl
theorem dX12_sortOf_15 : decode cX12_sortOf 15 = .ok (.bipush 65, 2) := kDec_at dA188_cX12_sortOf 4 rfl
theorem dX12_sortOf_17 : decode cX12_sortOf 17 = .ok (.if_icmp .lt 11, 3) := kDec_at dA188_cX12_sortOf 5 rfl
theorem dX12_sortOf_28 : decode cX12_sortOf 28 = .ok (.iload_n 0, 1) := kDec_at dA188_cX12_sortOf 6 rfl
theorem dX12_sortOf_29 : decode cX12_sortOf 29 = .ok (.bipush 48, 2) := kDec_at dA188_cX12_sortOf 7 rfl
theorem dX12_sortOf_31 : decode cX12_sortOf 31 = .ok (.if_icmp .lt 11, 3) := kDec_at dA188_cX12_sortOf 8 rfl
theorem dX12_sortOf_42 : decode cX12_sortOf 42 = .ok (.iload_n 0, 1) := kDec_at dA188_cX12_sortOf 9 rfl
theorem dX12_sortOf_43 : decode cX12_sortOf 43 = .ok (.bipush 32, 2) := kDec_at dA188_cX12_sortOf 10 rfl
theorem dX12_sortOf_45 : decode cX12_sortOf 45 = .ok (.if_icmp .ne 5, 3) := kDec_at dA188_cX12_sortOf 11 rfl
theorem dX12_sortOf_50 : decode cX12_sortOf 50 = .ok (.iload_n 0, 1) := kDec_at dA188_cX12_sortOf 12 rfl
theorem dX12_sortOf_51 : decode cX12_sortOf 51 = .ok (.bipush 33, 2) := kDec_at dA188_cX12_sortOf 13 rfl
theorem dX12_sortOf_53 : decode cX12_sortOf 53 = .ok (.if_icmp .lt 11, 3) := kDec_at dA188_cX12_sortOf 14 rfl
theorem dX12_sortOf_64 : decode cX12_sortOf 64 = .ok (.iload_n 0, 1) := kDec_at dA188_cX12_sortOf 15 rfl
theorem dX12_sortOf_65 : decode cX12_sortOf 65 = .ok (.sipush 192, 3) := kDec_at dA188_cX12_sortOf 16 rfl
theorem dX12_sortOf_68 : decode cX12_sortOf 68 = .ok (.if_icmp .lt 27, 3) := kDec_at dA188_cX12_sortOf 17 rfl
theorem dX12_sortOf_95 : decode cX12_sortOf 95 = .ok (.iload_n 0, 1) := kDec_at dA188_cX12_sortOf 18 rfl
theorem dX12_sortOf_96 : decode cX12_sortOf 96 = .ok (.sipush 880, 3) := kDec_at dA188_cX12_sortOf 19 rfl
theorem dX12_sortOf_99 : decode cX12_sortOf 99 = .ok (.if_icmp .lt 15, 3) := kDec_at dA188_cX12_sortOf 20 rfl
theorem dX12_sortOf_114 : decode cX12_sortOf 114 = .ok (.iconst 0, 1) := kDec_at dA188_cX12_sortOf 21 rfl
theorem dX12_sortOf_115 : decode cX12_sortOf 115 = .ok (.ireturn, 1) := kDec_at dA188_cX12_sortOf 22 rfl
theorem dX12_sortOf_56 : decode cX12_sortOf 56 = .ok (.iload_n 0, 1) := kDec_at dA188_cX12_sortOf 23 rfl
set_option maxRecDepth 100000 in
theorem dA189_cX12_sortOf : kDec cX12_sortOf [(57, .bipush 126, 2), (59, .if_icmp .gt 5, 3), (62, .iconst 5, 1), (63, .ireturn, 1), (48, .iconst 4, 1), (49, .ireturn, 1), (34, .iload_n 0, 1), (35, .bipush 57, 2), (37, .if_icmp .gt 5, 3), (40, .iconst 3, 1), (41, .ireturn, 1), (20, .iload_n 0, 1), (21, .bipush 90, 2), (23, .if_icmp .gt 5, 3), (26, .iconst 2, 1), (27, .ireturn, 1), (6, .iload_n 0, 1), (7, .bipush 122, 2), (9, .if_icmp .gt 5, 3), (71, .iload_n 0, 1), (72, .sipush 591, 3), (75, .if_icmp .gt 20, 3), (102, .iload_n 0, 1), (103, .sipush 1327, 3)] = true := by decide +kernel
theorem dX12_sortOf_57 : decode cX12_sortOf 57 = .ok (.bipush 126, 2) := kDec_at dA189_cX12_sortOf 0 rfl
theorem dX12_sortOf_59 : decode cX12_sortOf 59 = .ok (.if_icmp .gt 5, 3) := kDec_at dA189_cX12_sortOf 1 rfl
theorem dX12_sortOf_62 : decode cX12_sortOf 62 = .ok (.iconst 5, 1) := kDec_at dA189_cX12_sortOf 2 rfl
theorem dX12_sortOf_63 : decode cX12_sortOf 63 = .ok (.ireturn, 1) := kDec_at dA189_cX12_sortOf 3 rfl
theorem dX12_sortOf_48 : decode cX12_sortOf 48 = .ok (.iconst 4, 1) := kDec_at dA189_cX12_sortOf 4 rfl
theorem dX12_sortOf_49 : decode cX12_sortOf 49 = .ok (.ireturn, 1) := kDec_at dA189_cX12_sortOf 5 rfl
theorem dX12_sortOf_34 : decode cX12_sortOf 34 = .ok (.iload_n 0, 1) := kDec_at dA189_cX12_sortOf 6 rfl
theorem dX12_sortOf_35 : decode cX12_sortOf 35 = .ok (.bipush 57, 2) := kDec_at dA189_cX12_sortOf 7 rfl
theorem dX12_sortOf_37 : decode cX12_sortOf 37 = .ok (.if_icmp .gt 5, 3) := kDec_at dA189_cX12_sortOf 8 rfl
theorem dX12_sortOf_40 : decode cX12_sortOf 40 = .ok (.iconst 3, 1) := kDec_at dA189_cX12_sortOf 9 rfl
theorem dX12_sortOf_41 : decode cX12_sortOf 41 = .ok (.ireturn, 1) := kDec_at dA189_cX12_sortOf 10 rfl
theorem dX12_sortOf_20 : decode cX12_sortOf 20 = .ok (.iload_n 0, 1) := kDec_at dA189_cX12_sortOf 11 rfl
theorem dX12_sortOf_21 : decode cX12_sortOf 21 = .ok (.bipush 90, 2) := kDec_at dA189_cX12_sortOf 12 rfl
theorem dX12_sortOf_23 : decode cX12_sortOf 23 = .ok (.if_icmp .gt 5, 3) := kDec_at dA189_cX12_sortOf 13 rfl
theorem dX12_sortOf_26 : decode cX12_sortOf 26 = .ok (.iconst 2, 1) := kDec_at dA189_cX12_sortOf 14 rfl
theorem dX12_sortOf_27 : decode cX12_sortOf 27 = .ok (.ireturn, 1) := kDec_at dA189_cX12_sortOf 15 rfl
theorem dX12_sortOf_6 : decode cX12_sortOf 6 = .ok (.iload_n 0, 1) := kDec_at dA189_cX12_sortOf 16 rfl
theorem dX12_sortOf_7 : decode cX12_sortOf 7 = .ok (.bipush 122, 2) := kDec_at dA189_cX12_sortOf 17 rfl
theorem dX12_sortOf_9 : decode cX12_sortOf 9 = .ok (.if_icmp .gt 5, 3) := kDec_at dA189_cX12_sortOf 18 rfl
theorem dX12_sortOf_71 : decode cX12_sortOf 71 = .ok (.iload_n 0, 1) := kDec_at dA189_cX12_sortOf 19 rfl
theorem dX12_sortOf_72 : decode cX12_sortOf 72 = .ok (.sipush 591, 3) := kDec_at dA189_cX12_sortOf 20 rfl
theorem dX12_sortOf_75 : decode cX12_sortOf 75 = .ok (.if_icmp .gt 20, 3) := kDec_at dA189_cX12_sortOf 21 rfl
theorem dX12_sortOf_102 : decode cX12_sortOf 102 = .ok (.iload_n 0, 1) := kDec_at dA189_cX12_sortOf 22 rfl
theorem dX12_sortOf_103 : decode cX12_sortOf 103 = .ok (.sipush 1327, 3) := kDec_at dA189_cX12_sortOf 23 rfl
set_option maxRecDepth 100000 in
theorem dA190_cX12_sortOf : kDec cX12_sortOf [(106, .if_icmp .gt 8, 3), (109, .bipush 7, 2), (111, .goto 4, 3), (78, .iload_n 0, 1), (79, .sipush 215, 3), (82, .if_icmp .eq 13, 3), (85, .iload_n 0, 1), (86, .sipush 247, 3), (89, .if_icmp .eq 6, 3), (92, .bipush 6, 2), (94, .ireturn, 1), (12, .iconst 1, 1), (13, .ireturn, 1)] = true := by decide +kernel
theorem dX12_sortOf_106 : decode cX12_sortOf 106 = .ok (.if_icmp .gt 8, 3) := kDec_at dA190_cX12_sortOf 0 rfl
theorem dX12_sortOf_109 : decode cX12_sortOf 109 = .ok (.bipush 7, 2) := kDec_at dA190_cX12_sortOf 1 rfl
theorem dX12_sortOf_111 : decode cX12_sortOf 111 = .ok (.goto 4, 3) := kDec_at dA190_cX12_sortOf 2 rfl
theorem dX12_sortOf_78 : decode cX12_sortOf 78 = .ok (.iload_n 0, 1) := kDec_at dA190_cX12_sortOf 3 rfl
theorem dX12_sortOf_79 : decode cX12_sortOf 79 = .ok (.sipush 215, 3) := kDec_at dA190_cX12_sortOf 4 rfl
theorem dX12_sortOf_82 : decode cX12_sortOf 82 = .ok (.if_icmp .eq 13, 3) := kDec_at dA190_cX12_sortOf 5 rfl
theorem dX12_sortOf_85 : decode cX12_sortOf 85 = .ok (.iload_n 0, 1) := kDec_at dA190_cX12_sortOf 6 rfl
theorem dX12_sortOf_86 : decode cX12_sortOf 86 = .ok (.sipush 247, 3) := kDec_at dA190_cX12_sortOf 7 rfl
theorem dX12_sortOf_89 : decode cX12_sortOf 89 = .ok (.if_icmp .eq 6, 3) := kDec_at dA190_cX12_sortOf 8 rfl
theorem dX12_sortOf_92 : decode cX12_sortOf 92 = .ok (.bipush 6, 2) := kDec_at dA190_cX12_sortOf 9 rfl
theorem dX12_sortOf_94 : decode cX12_sortOf 94 = .ok (.ireturn, 1) := kDec_at dA190_cX12_sortOf 10 rfl
theorem dX12_sortOf_12 : decode cX12_sortOf 12 = .ok (.iconst 1, 1) := kDec_at dA190_cX12_sortOf 11 rfl
theorem dX12_sortOf_13 : decode cX12_sortOf 13 = .ok (.ireturn, 1) := kDec_at dA190_cX12_sortOf 12 rfl
set_option maxRecDepth 100000 in
theorem dA191_cX12_costOf : kDec cX12_costOf [(0, .iconst 0, 1), (1, .istore_n 3, 1), (2, .iload_n 3, 1), (3, .aload_n 0, 1), (4, .getfield 168, 3), (7, .if_icmp .ge 36, 3), (43, .iload_n 1, 1), (44, .invokestatic 193, 3), (47, .istore_n 3, 1), (48, .iload_n 2, 1), (49, .invokestatic 193, 3), (52, .istore 4, 2), (54, .iload_n 3, 1), (55, .iload 4, 2), (57, .if_icmp .ne 7, 3), (64, .bipush 9, 2), (66, .iload_n 3, 1), (67, .ifCond .ne 8, 3), (75, .iconst 0, 1), (76, .iadd, 1), (77, .iload 4, 2), (79, .ifCond .ne 8, 3), (87, .iconst 0, 1), (88, .iadd, 1)] = true := by decide +kernel
theorem dX12_costOf_0 : decode cX12_costOf 0 = .ok (.iconst 0, 1) := kDec_at dA191_cX12_costOf 0 rfl
theorem dX12_costOf_1 : decode cX12_costOf 1 = .ok (.istore_n 3, 1) := kDec_at dA191_cX12_costOf 1 rfl
theorem dX12_costOf_2 : decode cX12_costOf 2 = .ok (.iload_n 3, 1) := kDec_at dA191_cX12_costOf 2 rfl
theorem dX12_costOf_3 : decode cX12_costOf 3 = .ok (.aload_n 0, 1) := kDec_at dA191_cX12_costOf 3 rfl
theorem dX12_costOf_4 : decode cX12_costOf 4 = .ok (.getfield 168, 3) := kDec_at dA191_cX12_costOf 4 rfl
theorem dX12_costOf_7 : decode cX12_costOf 7 = .ok (.if_icmp .ge 36, 3) := kDec_at dA191_cX12_costOf 5 rfl
theorem dX12_costOf_43 : decode cX12_costOf 43 = .ok (.iload_n 1, 1) := kDec_at dA191_cX12_costOf 6 rfl
theorem dX12_costOf_44 : decode cX12_costOf 44 = .ok (.invokestatic 193, 3) := kDec_at dA191_cX12_costOf 7 rfl
theorem dX12_costOf_47 : decode cX12_costOf 47 = .ok (.istore_n 3, 1) := kDec_at dA191_cX12_costOf 8 rfl
theorem dX12_costOf_48 : decode cX12_costOf 48 = .ok (.iload_n 2, 1) := kDec_at dA191_cX12_costOf 9 rfl
theorem dX12_costOf_49 : decode cX12_costOf 49 = .ok (.invokestatic 193, 3) := kDec_at dA191_cX12_costOf 10 rfl
theorem dX12_costOf_52 : decode cX12_costOf 52 = .ok (.istore 4, 2) := kDec_at dA191_cX12_costOf 11 rfl
theorem dX12_costOf_54 : decode cX12_costOf 54 = .ok (.iload_n 3, 1) := kDec_at dA191_cX12_costOf 12 rfl
theorem dX12_costOf_55 : decode cX12_costOf 55 = .ok (.iload 4, 2) := kDec_at dA191_cX12_costOf 13 rfl
theorem dX12_costOf_57 : decode cX12_costOf 57 = .ok (.if_icmp .ne 7, 3) := kDec_at dA191_cX12_costOf 14 rfl
theorem dX12_costOf_64 : decode cX12_costOf 64 = .ok (.bipush 9, 2) := kDec_at dA191_cX12_costOf 15 rfl
theorem dX12_costOf_66 : decode cX12_costOf 66 = .ok (.iload_n 3, 1) := kDec_at dA191_cX12_costOf 16 rfl
theorem dX12_costOf_67 : decode cX12_costOf 67 = .ok (.ifCond .ne 8, 3) := kDec_at dA191_cX12_costOf 17 rfl
theorem dX12_costOf_75 : decode cX12_costOf 75 = .ok (.iconst 0, 1) := kDec_at dA191_cX12_costOf 18 rfl
theorem dX12_costOf_76 : decode cX12_costOf 76 = .ok (.iadd, 1) := kDec_at dA191_cX12_costOf 19 rfl
theorem dX12_costOf_77 : decode cX12_costOf 77 = .ok (.iload 4, 2) := kDec_at dA191_cX12_costOf 20 rfl
theorem dX12_costOf_79 : decode cX12_costOf 79 = .ok (.ifCond .ne 8, 3) := kDec_at dA191_cX12_costOf 21 rfl
theorem dX12_costOf_87 : decode cX12_costOf 87 = .ok (.iconst 0, 1) := kDec_at dA191_cX12_costOf 22 rfl
theorem dX12_costOf_88 : decode cX12_costOf 88 = .ok (.iadd, 1) := kDec_at dA191_cX12_costOf 23 rfl
set_option maxRecDepth 20000 in
theorem ggX12_costOf_X12_sortOf : GoodIn wsX12_costOf wsX12_sortOf := goodIn_r _ [8] rfl (by decide +kernel)
set_option maxRecDepth 20000 in
theorem gX12_costOf_X12_sortOf : GoodIn wsX12_costOf (va_wsS RX12 193 yX12_sortOf wsX12_sortOf) := goodIn_app (goodIn_r _ [5, 6, 7] rfl (by decide +kernel)) ggX12_costOf_X12_sortOf
set_option maxRecDepth 100000 in
theorem dA192_cX12_costOf : kDec cX12_costOf [(89, .ireturn, 1), (82, .bipush 30, 2), (84, .goto 4, 3), (70, .bipush 30, 2), (72, .goto 4, 3), (60, .iconst 4, 1), (61, .goto 5, 3), (10, .aload_n 0, 1), (11, .getfield 39, 3), (14, .iload_n 3, 1), (15, .iaload, 1), (16, .iload_n 1, 1), (17, .if_icmp .ne 20, 3), (37, .iinc 3 1, 3), (40, .goto (-38), 3), (20, .aload_n 0, 1), (21, .getfield 42, 3), (24, .iload_n 3, 1), (25, .iaload, 1), (26, .iload_n 2, 1), (27, .if_icmp .ne 10, 3), (30, .aload_n 0, 1), (31, .getfield 45, 3), (34, .iload_n 3, 1)] = true := by decide +kernel
theorem dX12_costOf_89 : decode cX12_costOf 89 = .ok (.ireturn, 1) := kDec_at dA192_cX12_costOf 0 rfl
theorem dX12_costOf_82 : decode cX12_costOf 82 = .ok (.bipush 30, 2) := kDec_at dA192_cX12_costOf 1 rfl
theorem dX12_costOf_84 : decode cX12_costOf 84 = .ok (.goto 4, 3) := kDec_at dA192_cX12_costOf 2 rfl
theorem dX12_costOf_70 : decode cX12_costOf 70 = .ok (.bipush 30, 2) := kDec_at dA192_cX12_costOf 3 rfl
theorem dX12_costOf_72 : decode cX12_costOf 72 = .ok (.goto 4, 3) := kDec_at dA192_cX12_costOf 4 rfl
theorem dX12_costOf_60 : decode cX12_costOf 60 = .ok (.iconst 4, 1) := kDec_at dA192_cX12_costOf 5 rfl
theorem dX12_costOf_61 : decode cX12_costOf 61 = .ok (.goto 5, 3) := kDec_at dA192_cX12_costOf 6 rfl
theorem dX12_costOf_10 : decode cX12_costOf 10 = .ok (.aload_n 0, 1) := kDec_at dA192_cX12_costOf 7 rfl
theorem dX12_costOf_11 : decode cX12_costOf 11 = .ok (.getfield 39, 3) := kDec_at dA192_cX12_costOf 8 rfl
theorem dX12_costOf_14 : decode cX12_costOf 14 = .ok (.iload_n 3, 1) := kDec_at dA192_cX12_costOf 9 rfl
theorem dX12_costOf_15 : decode cX12_costOf 15 = .ok (.iaload, 1) := kDec_at dA192_cX12_costOf 10 rfl
theorem dX12_costOf_16 : decode cX12_costOf 16 = .ok (.iload_n 1, 1) := kDec_at dA192_cX12_costOf 11 rfl
theorem dX12_costOf_17 : decode cX12_costOf 17 = .ok (.if_icmp .ne 20, 3) := kDec_at dA192_cX12_costOf 12 rfl
theorem dX12_costOf_37 : decode cX12_costOf 37 = .ok (.iinc 3 1, 3) := kDec_at dA192_cX12_costOf 13 rfl
theorem dX12_costOf_40 : decode cX12_costOf 40 = .ok (.goto (-38), 3) := kDec_at dA192_cX12_costOf 14 rfl
theorem dX12_costOf_20 : decode cX12_costOf 20 = .ok (.aload_n 0, 1) := kDec_at dA192_cX12_costOf 15 rfl
theorem dX12_costOf_21 : decode cX12_costOf 21 = .ok (.getfield 42, 3) := kDec_at dA192_cX12_costOf 16 rfl
theorem dX12_costOf_24 : decode cX12_costOf 24 = .ok (.iload_n 3, 1) := kDec_at dA192_cX12_costOf 17 rfl
theorem dX12_costOf_25 : decode cX12_costOf 25 = .ok (.iaload, 1) := kDec_at dA192_cX12_costOf 18 rfl
theorem dX12_costOf_26 : decode cX12_costOf 26 = .ok (.iload_n 2, 1) := kDec_at dA192_cX12_costOf 19 rfl
theorem dX12_costOf_27 : decode cX12_costOf 27 = .ok (.if_icmp .ne 10, 3) := kDec_at dA192_cX12_costOf 20 rfl
theorem dX12_costOf_30 : decode cX12_costOf 30 = .ok (.aload_n 0, 1) := kDec_at dA192_cX12_costOf 21 rfl
theorem dX12_costOf_31 : decode cX12_costOf 31 = .ok (.getfield 45, 3) := kDec_at dA192_cX12_costOf 22 rfl
theorem dX12_costOf_34 : decode cX12_costOf 34 = .ok (.iload_n 3, 1) := kDec_at dA192_cX12_costOf 23 rfl
set_option maxRecDepth 100000 in
theorem dA193_cX12_costOf : kDec cX12_costOf [(35, .iaload, 1), (36, .ireturn, 1)] = true := by decide +kernel
theorem dX12_costOf_35 : decode cX12_costOf 35 = .ok (.iaload, 1) := kDec_at dA193_cX12_costOf 0 rfl
theorem dX12_costOf_36 : decode cX12_costOf 36 = .ok (.ireturn, 1) := kDec_at dA193_cX12_costOf 1 rfl
set_option maxRecDepth 100000 in
theorem dA194_cX12_costOf_ : kDec cX12_costOf_ [(0, .iconst 0, 1), (1, .istore 4, 2), (3, .bipush 32, 2), (5, .istore 5, 2), (7, .iload_n 2, 1), (8, .istore 6, 2), (10, .iload 6, 2), (12, .iload_n 3, 1), (13, .if_icmp .ge 30, 3), (43, .iload 4, 2), (45, .aload_n 0, 1), (46, .iload 5, 2), (48, .bipush 32, 2), (50, .invokevirtual 196, 3), (53, .iadd, 1), (54, .ireturn, 1), (16, .iload 4, 2), (18, .aload_n 0, 1), (19, .iload 5, 2), (21, .aload_n 1, 1), (22, .iload 6, 2), (24, .iaload, 1), (25, .invokevirtual 196, 3), (28, .iadd, 1)] = true := by decide +kernel
theorem dX12_costOf__0 : decode cX12_costOf_ 0 = .ok (.iconst 0, 1) := kDec_at dA194_cX12_costOf_ 0 rfl
theorem dX12_costOf__1 : decode cX12_costOf_ 1 = .ok (.istore 4, 2) := kDec_at dA194_cX12_costOf_ 1 rfl
theorem dX12_costOf__3 : decode cX12_costOf_ 3 = .ok (.bipush 32, 2) := kDec_at dA194_cX12_costOf_ 2 rfl
theorem dX12_costOf__5 : decode cX12_costOf_ 5 = .ok (.istore 5, 2) := kDec_at dA194_cX12_costOf_ 3 rfl
theorem dX12_costOf__7 : decode cX12_costOf_ 7 = .ok (.iload_n 2, 1) := kDec_at dA194_cX12_costOf_ 4 rfl
theorem dX12_costOf__8 : decode cX12_costOf_ 8 = .ok (.istore 6, 2) := kDec_at dA194_cX12_costOf_ 5 rfl
theorem dX12_costOf__10 : decode cX12_costOf_ 10 = .ok (.iload 6, 2) := kDec_at dA194_cX12_costOf_ 6 rfl
theorem dX12_costOf__12 : decode cX12_costOf_ 12 = .ok (.iload_n 3, 1) := kDec_at dA194_cX12_costOf_ 7 rfl
theorem dX12_costOf__13 : decode cX12_costOf_ 13 = .ok (.if_icmp .ge 30, 3) := kDec_at dA194_cX12_costOf_ 8 rfl
theorem dX12_costOf__43 : decode cX12_costOf_ 43 = .ok (.iload 4, 2) := kDec_at dA194_cX12_costOf_ 9 rfl
theorem dX12_costOf__45 : decode cX12_costOf_ 45 = .ok (.aload_n 0, 1) := kDec_at dA194_cX12_costOf_ 10 rfl
theorem dX12_costOf__46 : decode cX12_costOf_ 46 = .ok (.iload 5, 2) := kDec_at dA194_cX12_costOf_ 11 rfl
theorem dX12_costOf__48 : decode cX12_costOf_ 48 = .ok (.bipush 32, 2) := kDec_at dA194_cX12_costOf_ 12 rfl
theorem dX12_costOf__50 : decode cX12_costOf_ 50 = .ok (.invokevirtual 196, 3) := kDec_at dA194_cX12_costOf_ 13 rfl
theorem dX12_costOf__53 : decode cX12_costOf_ 53 = .ok (.iadd, 1) := kDec_at dA194_cX12_costOf_ 14 rfl
theorem dX12_costOf__54 : decode cX12_costOf_ 54 = .ok (.ireturn, 1) := kDec_at dA194_cX12_costOf_ 15 rfl
theorem dX12_costOf__16 : decode cX12_costOf_ 16 = .ok (.iload 4, 2) := kDec_at dA194_cX12_costOf_ 16 rfl
theorem dX12_costOf__18 : decode cX12_costOf_ 18 = .ok (.aload_n 0, 1) := kDec_at dA194_cX12_costOf_ 17 rfl
theorem dX12_costOf__19 : decode cX12_costOf_ 19 = .ok (.iload 5, 2) := kDec_at dA194_cX12_costOf_ 18 rfl
theorem dX12_costOf__21 : decode cX12_costOf_ 21 = .ok (.aload_n 1, 1) := kDec_at dA194_cX12_costOf_ 19 rfl
theorem dX12_costOf__22 : decode cX12_costOf_ 22 = .ok (.iload 6, 2) := kDec_at dA194_cX12_costOf_ 20 rfl
theorem dX12_costOf__24 : decode cX12_costOf_ 24 = .ok (.iaload, 1) := kDec_at dA194_cX12_costOf_ 21 rfl
theorem dX12_costOf__25 : decode cX12_costOf_ 25 = .ok (.invokevirtual 196, 3) := kDec_at dA194_cX12_costOf_ 22 rfl
theorem dX12_costOf__28 : decode cX12_costOf_ 28 = .ok (.iadd, 1) := kDec_at dA194_cX12_costOf_ 23 rfl
set_option maxRecDepth 20000 in
theorem ggX12_costOf__X12_costOf : GoodIn wsX12_costOf_ wsX12_costOf := goodIn_r _ [5, 6, 7, 8, 9, 10, 11, 4, 12, 13, 14, 15, 16, 17, 18, 19, 20, 21, 22, 23, 24, 25, 26, 27, 28, 29, 30, 31, 32, 33, 34, 35, 36, 37, 38, 39, 40, 41, 42, 43, 44, 45, 46, 47, 48, 49, 50, 51, 52] rfl (by decide +kernel)
set_option maxRecDepth 20000 in
theorem gX12_costOf__X12_costOf : GoodIn wsX12_costOf_ (wsV RX12 196 RX12 yX12_costOf wsX12_costOf) := goodIn_app (goodIn_r _ [1, 2, 3, 4] rfl (by decide +kernel)) ggX12_costOf__X12_costOf
set_option maxRecDepth 100000 in
theorem dA195_cX12_costOf_ : kDec cX12_costOf_ [(29, .istore 4, 2), (31, .aload_n 1, 1), (32, .iload 6, 2), (34, .iaload, 1), (35, .istore 5, 2), (37, .iinc 6 1, 3), (40, .goto (-30), 3)] = true := by decide +kernel
theorem dX12_costOf__29 : decode cX12_costOf_ 29 = .ok (.istore 4, 2) := kDec_at dA195_cX12_costOf_ 0 rfl
theorem dX12_costOf__31 : decode cX12_costOf_ 31 = .ok (.aload_n 1, 1) := kDec_at dA195_cX12_costOf_ 1 rfl
theorem dX12_costOf__32 : decode cX12_costOf_ 32 = .ok (.iload 6, 2) := kDec_at dA195_cX12_costOf_ 2 rfl
theorem dX12_costOf__34 : decode cX12_costOf_ 34 = .ok (.iaload, 1) := kDec_at dA195_cX12_costOf_ 3 rfl
theorem dX12_costOf__35 : decode cX12_costOf_ 35 = .ok (.istore 5, 2) := kDec_at dA195_cX12_costOf_ 4 rfl
theorem dX12_costOf__37 : decode cX12_costOf_ 37 = .ok (.iinc 6 1, 3) := kDec_at dA195_cX12_costOf_ 5 rfl
theorem dX12_costOf__40 : decode cX12_costOf_ 40 = .ok (.goto (-30), 3) := kDec_at dA195_cX12_costOf_ 6 rfl
set_option maxRecDepth 100000 in
theorem dA196_cX12_worth : kDec cX12_worth [(0, .aload_n 0, 1), (1, .iconst 0, 1), (2, .putfield 85, 3), (5, .aload_n 0, 1), (6, .aload_n 0, 1), (7, .getfield 16, 3), (10, .iconst 0, 1), (11, .aload_n 0, 1), (12, .getfield 13, 3), (15, .iconst 0, 1), (16, .iaload, 1), (17, .invokevirtual 189, 3), (20, .ireturn, 1)] = true := by decide +kernel
theorem dX12_worth_0 : decode cX12_worth 0 = .ok (.aload_n 0, 1) := kDec_at dA196_cX12_worth 0 rfl
theorem dX12_worth_1 : decode cX12_worth 1 = .ok (.iconst 0, 1) := kDec_at dA196_cX12_worth 1 rfl
theorem dX12_worth_2 : decode cX12_worth 2 = .ok (.putfield 85, 3) := kDec_at dA196_cX12_worth 2 rfl
theorem dX12_worth_5 : decode cX12_worth 5 = .ok (.aload_n 0, 1) := kDec_at dA196_cX12_worth 3 rfl
theorem dX12_worth_6 : decode cX12_worth 6 = .ok (.aload_n 0, 1) := kDec_at dA196_cX12_worth 4 rfl
theorem dX12_worth_7 : decode cX12_worth 7 = .ok (.getfield 16, 3) := kDec_at dA196_cX12_worth 5 rfl
theorem dX12_worth_10 : decode cX12_worth 10 = .ok (.iconst 0, 1) := kDec_at dA196_cX12_worth 6 rfl
theorem dX12_worth_11 : decode cX12_worth 11 = .ok (.aload_n 0, 1) := kDec_at dA196_cX12_worth 7 rfl
theorem dX12_worth_12 : decode cX12_worth 12 = .ok (.getfield 13, 3) := kDec_at dA196_cX12_worth 8 rfl
theorem dX12_worth_15 : decode cX12_worth 15 = .ok (.iconst 0, 1) := kDec_at dA196_cX12_worth 9 rfl
theorem dX12_worth_16 : decode cX12_worth 16 = .ok (.iaload, 1) := kDec_at dA196_cX12_worth 10 rfl
theorem dX12_worth_17 : decode cX12_worth 17 = .ok (.invokevirtual 189, 3) := kDec_at dA196_cX12_worth 11 rfl
theorem dX12_worth_20 : decode cX12_worth 20 = .ok (.ireturn, 1) := kDec_at dA196_cX12_worth 12 rfl
set_option maxRecDepth 20000 in
theorem ggX12_worth_X12_costOf_ : GoodIn wsX12_worth wsX12_costOf_ := goodIn_r _ [8, 9, 10, 11, 7, 12, 13, 14, 15, 16, 17, 18, 19, 20, 21, 22, 23, 24, 25, 26, 27, 28, 29, 30, 31, 32, 33, 34, 35, 36, 37, 38, 39, 40, 41, 42, 43, 44, 45, 46, 47, 48, 49, 50, 51, 52, 53, 54, 55, 56, 57, 58, 59] rfl (by decide +kernel)
set_option maxRecDepth 20000 in
theorem gX12_worth_X12_costOf_ : GoodIn wsX12_worth (wsV RX12 189 RX12 yX12_costOf_ wsX12_costOf_) := goodIn_app (goodIn_r _ [4, 5, 6, 7] rfl (by decide +kernel)) ggX12_worth_X12_costOf_

end

/-! 54.ref -/
section
set_option maxHeartbeats 40000000 in
set_option maxRecDepth 100000 in
theorem y_size (l : Launch) (dC : Nat → ClassId) (dI : Nat → Nat → Nat) (cI cS : ClassId) (sz : Nat) (oM : Nat) (mT : Nat) (mS : Nat) (mX : Nat) (mL : Nat) (mB : Nat) (mD : Nat) (m1 : Nat) (m2 : Nat) (mR : Nat) (x1 : Nat) (x2 : Nat) (x3 : Nat) (mH : Nat) (mY : Nat) (mE : Nat) (mW : Nat) (mO : Nat) (y1 : Nat) (y2 : Nat) (y3 : Nat) (y4 : Nat) (mZ : Nat) (zt : Int32) (zp : Int32) (zf : Int32) (zh : Int32) (zr : Int32) (zc : Int32) (zy : Int32) (za : Int32) (zb : Int32) (zs : Int32) (zq : Int32) (zw : Int32) (ze : Int32) (zn : Int32) (zm : Int32) (zl : Int32) (zk : Int32) (zd : Int32) (eY : Nat → Int32) (eB : Nat → Int32) (eS : Nat → Int32) (eX : Nat → Int32) (cd : Int32) (g_zt : 0 ≤ zt.toInt ∧ zt.toInt ≤ 900) (g_zp : 0 ≤ zp.toInt ∧ zp.toInt ≤ 20) (g_zf : 0 ≤ zf.toInt ∧ zf.toInt ≤ 19) (g_zh : 0 ≤ zh.toInt ∧ zh.toInt ≤ 6) (g_zr : 0 ≤ zr.toInt ∧ zr.toInt ≤ 258) (g_zc : 0 ≤ zc.toInt ∧ zc.toInt ≤ 300) (g_zy : 0 ≤ zy.toInt ∧ zy.toInt ≤ 65536) (g_za : 0 ≤ za.toInt ∧ za.toInt ≤ 5) (g_zb : 0 ≤ zb.toInt ∧ zb.toInt ≤ 5) (g_zs : 0 ≤ zs.toInt ∧ zs.toInt ≤ 2000000) (g_zq : -1 ≤ zq.toInt ∧ zq.toInt ≤ 2000000) (g_zn : 0 ≤ zn.toInt ∧ zn.toInt ≤ 2600) (g_zm : 0 ≤ zm.toInt ∧ zm.toInt ≤ 2600) (g_zk : 0 ≤ zk.toInt ∧ zk.toInt ≤ 300) (g_eY : rg 0 255 eY) (g_eB : rg (-1) 255 eB) (g_eS : rg 0 300 eS) (g_eX : rg 0 65535 eX) (hzs : zs.toInt ≤ 1000000) : kMi l yX12_size wsX12_size ({ frames := 3, cells := 0, slots := 0, locals := 68 } : Room) [.ref oM, .int cd] sz (dC, dI) vwCl [(cI, .int), (cS, .short)] [(oM, .inr (12, [.ref mT, .int zt, .ref mS, .ref mX, .int zp, .int zf, .ref mL, .ref mB, .ref mD, .ref m1, .ref m2, .int zh, .ref mR, .int zr, .ref x1, .ref x2, .ref x3, .int zc, .ref mH, .int zy, .int za, .int zb, .int zs, .int zq, .int zw, .int ze, .ref mY, .int zn, .ref mE, .int zm, .int zl, .ref mW, .int zk, .ref mO, .int zd, .ref y1, .ref y2, .ref y3, .ref y4, .ref mZ])), (mY, .inl (cI, 2600, .inl eY)), (mB, .inl (cS, 131072, .inl eB)), (mS, .inl (cI, 21, .inl eS)), (mX, .inl (cI, 6300, .inl eX))] (fun _ => True) 0 0 (fun (A : Nat → Prop) (r : Int32) (hh9 : Heap) => ∃ (ze' : Int32) (zw' : Int32) (zn' : Int32) (eY' : Nat → Int32) (zl' : Int32), kPD (dC, dI) vwCl A [(oM, .inr (12, [.ref mT, .int zt, .ref mS, .ref mX, .int zp, .int zf, .ref mL, .ref mB, .ref mD, .ref m1, .ref m2, .int zh, .ref mR, .int zr, .ref x1, .ref x2, .ref x3, .int zc, .ref mH, .int zy, .int za, .int zb, .int zs, .int zq, .int zw', .int ze', .ref mY, .int zn', .ref mE, .int zm, .int zl', .ref mW, .int zk, .ref mO, .int zd, .ref y1, .ref y2, .ref y3, .ref y4, .ref mZ])), (mY, .inl (cI, 2600, .inl eY')), (mB, .inl (cS, 131072, .inl eB)), (mS, .inl (cI, 21, .inl eS)), (mX, .inl (cI, 6300, .inl eX))] hh9 ∧ (0 ≤ zn'.toInt ∧ zn'.toInt ≤ 2600) ∧ (rg 0 255 eY')) := by
  refine kMi_of (cc := cX12_size) (maxL := 2) (ret := (some .int)) (lv := [(0, .ref oM), (1, .int cd)]) (by decide +kernel) rfl rfl (Nat.le_of_ble_eq_true rfl) ?_
  intro p e s m below meth c A QQ ls hx hb hr hts hml hown hlocks hA hQQ hK hX hP hD hS hl
  have hown : s.vm.findClass RX12 = some m.cls := hown
  have hcf := k_cf hx hb hml hown hts
  have in_X12 : ∀ w ∈ wsX120, w ∈ wsX12_size := fun _ h => List.mem_cons_of_mem _ (List.mem_append_right _ (h))
  replace g_zt := hid g_zt
  replace g_zp := hid g_zp
  replace g_zf := hid g_zf
  replace g_zh := hid g_zh
  replace g_zr := hid g_zr
  replace g_zc := hid g_zc
  replace g_zy := hid g_zy
  replace g_za := hid g_za
  replace g_zb := hid g_zb
  replace g_zs := hid g_zs
  replace g_zq := hid g_zq
  replace g_zn := hid g_zn
  replace g_zm := hid g_zm
  replace g_zk := hid g_zk
  refine lv_aload_n hx hb dX12_size_0 rfl (lv_at hl 0 rfl) ?_
  refine lv_iconst (v := 0) hx hb dX12_size_1 (by decide) ?_
  refine va_put (D := (dC, dI)) (ci := 12) (v := .int 0) (ty := .int) (C := RX12) (T := TX12) (N := 40) hx hb hts in_X12 tyX12 tyX12_ok nmX12 hown hK hP hD hS 0 rfl rfl 25 (by decide) (hts (.fieldLink RX12 85 "TextMenderModel" "thrown" "I") (List.mem_of_getElem? (i := 1) rfl)) (fun _ h9 => h9) rfl (by decide +kernel) rfl rfl (Nat.le_of_ble_eq_true rfl) dX12_size_2 (kW (wn := [(oM, .inr (12, [.ref mT, .int zt, .ref mS, .ref mX, .int zp, .int zf, .ref mL, .ref mB, .ref mD, .ref m1, .ref m2, .int zh, .ref mR, .int zr, .ref x1, .ref x2, .ref x3, .int zc, .ref mH, .int zy, .int za, .int zb, .int zs, .int zq, .int zw, .int 0, .ref mY, .int zn, .ref mE, .int zm, .int zl, .ref mW, .int zk, .ref mO, .int zd, .ref y1, .ref y2, .ref y3, .ref y4, .ref mZ])), (mY, .inl (cI, 2600, .inl eY)), (mB, .inl (cS, 131072, .inl eB)), (mS, .inl (cI, 21, .inl eS)), (mX, .inl (cI, 6300, .inl eX))]) rfl (fun H locs hPn hDn hSn => ?_))
  clear hP hD hS
  have hP := hPn
  have hD := hDn
  have hS := hSn
  clear hPn hDn hSn
  refine lv_aload_n hx hb dX12_size_5 rfl (lv_at hl 0 rfl) ?_
  refine lv_iconst (v := (-1)) hx hb dX12_size_6 (by decide) ?_
  refine va_put (D := (dC, dI)) (ci := 12) (v := .int (-1)) (ty := .int) (C := RX12) (T := TX12) (N := 40) hx hb hts in_X12 tyX12 tyX12_ok nmX12 hown hK hP hD hS 0 rfl rfl 24 (by decide) (hts (.fieldLink RX12 55 "TextMenderModel" "where" "I") (List.mem_of_getElem? (i := 2) rfl)) (fun _ h9 => h9) rfl (by decide +kernel) rfl rfl (Nat.le_of_ble_eq_true rfl) dX12_size_7 (kW (wn := [(oM, .inr (12, [.ref mT, .int zt, .ref mS, .ref mX, .int zp, .int zf, .ref mL, .ref mB, .ref mD, .ref m1, .ref m2, .int zh, .ref mR, .int zr, .ref x1, .ref x2, .ref x3, .int zc, .ref mH, .int zy, .int za, .int zb, .int zs, .int zq, .int (-1), .int 0, .ref mY, .int zn, .ref mE, .int zm, .int zl, .ref mW, .int zk, .ref mO, .int zd, .ref y1, .ref y2, .ref y3, .ref y4, .ref mZ])), (mY, .inl (cI, 2600, .inl eY)), (mB, .inl (cS, 131072, .inl eB)), (mS, .inl (cI, 21, .inl eS)), (mX, .inl (cI, 6300, .inl eX))]) rfl (fun H locs hPn hDn hSn => ?_))
  clear hP hD hS
  have hP := hPn
  have hD := hDn
  have hS := hSn
  clear hPn hDn hSn
  refine lv_iload_n hx hb dX12_size_10 rfl (lv_at hl 1 rfl) ?_
  refine kS_i (rest := []) hcf (m_X12_isCode l dC dI cI cS H.size cd ) kc_X12_isCode gX12_size_X12_isCode rfl rfl ⟨Nat.le_of_ble_eq_true rfl, Nat.le_of_ble_eq_true rfl⟩ kX_t hK hP hD hS hA [] [0, 1, 2, 3, 4] rfl (by decide +kernel) rfl hl rfl (Nat.le_of_ble_eq_true rfl) dX12_size_11 ⟨Nat.le_of_ble_eq_true rfl, Nat.le_of_ble_eq_true rfl⟩ (fun r_1 H locs hB hJ hSn => ?_)
  obtain ⟨⟨hP1, hD1⟩, hf1_0, hf1_1⟩ := hB
  obtain ⟨hPn, hDn⟩ := hJ _ hP1 hD1 [(oM, .inr (12, [.ref mT, .int zt, .ref mS, .ref mX, .int zp, .int zf, .ref mL, .ref mB, .ref mD, .ref m1, .ref m2, .int zh, .ref mR, .int zr, .ref x1, .ref x2, .ref x3, .int zc, .ref mH, .int zy, .int za, .int zb, .int zs, .int zq, .int (-1), .int 0, .ref mY, .int zn, .ref mE, .int zm, .int zl, .ref mW, .int zk, .ref mO, .int zd, .ref y1, .ref y2, .ref y3, .ref y4, .ref mZ])), (mY, .inl (cI, 2600, .inl eY)), (mB, .inl (cS, 131072, .inl eB)), (mS, .inl (cI, 21, .inl eS)), (mX, .inl (cI, 6300, .inl eX))] rfl
  clear hP hD hS hJ hP1 hD1
  have hP := hPn
  have hD := hDn
  have hS := hSn
  clear hPn hDn hSn
  refine lv_if_ne (tgt := 19) hx hb dX12_size_14 (by decide) (fun c_2 => ?_) (fun c_2 => ?_)
  · have tc_2 : ¬ r_1.toInt = 0 := v_ne c_2
    refine lv_aload_n hx hb dX12_size_19 rfl (lv_at hl 0 rfl) ?_
    refine lv_iload_n hx hb dX12_size_20 rfl (lv_at hl 1 rfl) ?_
    refine lv_aload_n hx hb dX12_size_21 rfl (lv_at hl 0 rfl) ?_
    refine va_get (D := (dC, dI)) (ci := 12) (v := .ref mX) (C := RX12) (T := TX12) (N := 40) hx hb hts in_X12 hown hK hP 0 rfl rfl 3 (by decide) (hts (.fieldLink RX12 16 "TextMenderModel" "texts" "[I") (List.mem_of_getElem? (i := 3) rfl)) (fun _ h9 => h9) rfl dX12_size_22 ?_
    refine lv_aload_n hx hb dX12_size_25 rfl (lv_at hl 0 rfl) ?_
    refine va_get (D := (dC, dI)) (ci := 12) (v := .ref mS) (C := RX12) (T := TX12) (N := 40) hx hb hts in_X12 hown hK hP 0 rfl rfl 2 (by decide) (hts (.fieldLink RX12 13 "TextMenderModel" "sizes" "[I") (List.mem_of_getElem? (i := 4) rfl)) (fun _ h9 => h9) rfl dX12_size_26 ?_
    refine lv_iconst (v := 0) hx hb dX12_size_29 (by decide) ?_
    refine va_iald hx hb hK hP 3 0 rfl rfl (by unfold vp_in; decide) dX12_size_30 ?_
    refine lv_topi (fun x_3 ex_3 => ?_)
    have tx_3 : 0 ≤ x_3.toInt ∧ x_3.toInt ≤ 300 := rg_at g_eS ex_3
    refine kV_i (rest := []) (q0 := 0) (ci := 12) hcf (m_X12_write l dC dI cI cS H.size oM mX mT mS mX mL mB mD m1 m2 mR x1 x2 x3 mH mY mE mW mO y1 y2 y3 y4 mZ 6300 zt zp zf zh zr zc zy za zb zs zq (-1) 0 zn zm zl zk zd eY eB eX cd x_3 (g_zt) (g_zp) (g_zf) (g_zh) (g_zr) (g_zc) (g_zy) (g_za) (g_zb) (g_zs) (g_zq) (g_zn) (g_zm) (g_zk) (g_eY) (g_eB) (g_eX) (by omega) (v_rr tx_3 (by decide) (by decide)) (by omega) (by omega)) kc_X12_write gX12_size_X12_write rfl rfl rfl ⟨Nat.le_of_ble_eq_true rfl, Nat.le_of_ble_eq_true rfl⟩ kX_t hK hP hD hS hA [0, 1, 2, 4] [3] rfl (by decide +kernel) rfl rfl rfl hl rfl (Nat.le_of_ble_eq_true rfl) dX12_size_31 ⟨Nat.le_of_ble_eq_true rfl, Nat.le_of_ble_eq_true rfl⟩ (fun r_4 H locs hB hJ hSn => ?_)
    obtain ⟨zn_4, eY_4, zl_4, ⟨hP1, hD1⟩, hf4_0, hf4_1, hf4_2⟩ := hB
    obtain ⟨hPn, hDn⟩ := hJ _ hP1 hD1 [(mS, .inl (cI, 21, .inl eS)), (oM, .inr (12, [.ref mT, .int zt, .ref mS, .ref mX, .int zp, .int zf, .ref mL, .ref mB, .ref mD, .ref m1, .ref m2, .int zh, .ref mR, .int zr, .ref x1, .ref x2, .ref x3, .int zc, .ref mH, .int zy, .int za, .int zb, .int zs, .int zq, .int (-1), .int 0, .ref mY, .int zn_4, .ref mE, .int zm, .int zl_4, .ref mW, .int zk, .ref mO, .int zd, .ref y1, .ref y2, .ref y3, .ref y4, .ref mZ])), (mY, .inl (cI, 2600, .inl eY_4)), (mB, .inl (cS, 131072, .inl eB)), (mX, .inl (cI, 6300, .inl eX))] rfl
    clear hP hD hS hJ hP1 hD1
    have hP := hPn
    have hD := hDn
    have hS := hSn
    clear hPn hDn hSn
    refine lv_if_ne (tgt := 47) hx hb dX12_size_34 (by decide) (fun c_5 => ?_) (fun c_5 => ?_)
    · have tc_5 : ¬ r_4.toInt = 0 := v_ne c_5
      refine lv_aload_n hx hb dX12_size_47 rfl (lv_at hl 0 rfl) ?_
      refine va_get (D := (dC, dI)) (ci := 12) (v := .int zn_4) (C := RX12) (T := TX12) (N := 40) hx hb hts in_X12 hown hK hP 1 rfl rfl 27 (by decide) (hts (.fieldLink RX12 91 "TextMenderModel" "byteMany" "I") (List.mem_of_getElem? (i := 6) rfl)) (fun _ h9 => h9) rfl dX12_size_48 ?_
      exact kl_i (v := zn_4) hQQ hx hb hr hlocks hS dX12_size_51 ⟨0, (-1), zn_4, eY_4, zl_4, kPD_sub hP hD [1, 2, 3, 0, 4] (by decide +kernel) rfl, hf4_0, hf4_1⟩
    · have tc_5 : r_4.toInt = 0 := v_eq c_5
      refine lv_aload_n hx hb dX12_size_37 rfl (lv_at hl 0 rfl) ?_
      refine lv_aload_n hx hb dX12_size_38 rfl (lv_at hl 0 rfl) ?_
      refine va_get (D := (dC, dI)) (ci := 12) (v := .int zl_4) (C := RX12) (T := TX12) (N := 40) hx hb hts in_X12 hown hK hP 1 rfl rfl 30 (by decide) (hts (.fieldLink RX12 102 "TextMenderModel" "faultAt" "I") (List.mem_of_getElem? (i := 5) rfl)) (fun _ h9 => h9) rfl dX12_size_39 ?_
      refine va_put (D := (dC, dI)) (ci := 12) (v := .int zl_4) (ty := .int) (C := RX12) (T := TX12) (N := 40) hx hb hts in_X12 tyX12 tyX12_ok nmX12 hown hK hP hD hS 1 rfl rfl 24 (by decide) (hts (.fieldLink RX12 55 "TextMenderModel" "where" "I") (List.mem_of_getElem? (i := 2) rfl)) (fun _ h9 => h9) rfl (by decide +kernel) rfl rfl (Nat.le_of_ble_eq_true rfl) dX12_size_42 (kW (wn := [(mS, .inl (cI, 21, .inl eS)), (oM, .inr (12, [.ref mT, .int zt, .ref mS, .ref mX, .int zp, .int zf, .ref mL, .ref mB, .ref mD, .ref m1, .ref m2, .int zh, .ref mR, .int zr, .ref x1, .ref x2, .ref x3, .int zc, .ref mH, .int zy, .int za, .int zb, .int zs, .int zq, .int zl_4, .int 0, .ref mY, .int zn_4, .ref mE, .int zm, .int zl_4, .ref mW, .int zk, .ref mO, .int zd, .ref y1, .ref y2, .ref y3, .ref y4, .ref mZ])), (mY, .inl (cI, 2600, .inl eY_4)), (mB, .inl (cS, 131072, .inl eB)), (mX, .inl (cI, 6300, .inl eX))]) rfl (fun H locs hPn hDn hSn => ?_))
      clear hP hD hS
      have hP := hPn
      have hD := hDn
      have hS := hSn
      clear hPn hDn hSn
      refine lv_iconst (v := (-1)) hx hb dX12_size_45 (by decide) ?_
      exact kl_i (v := (-1)) hQQ hx hb hr hlocks hS dX12_size_46 ⟨0, zl_4, zn_4, eY_4, zl_4, kPD_sub hP hD [1, 2, 3, 0, 4] (by decide +kernel) rfl, hf4_0, hf4_1⟩
  · have tc_2 : r_1.toInt = 0 := v_eq c_2
    refine lv_iconst (v := (-1)) hx hb dX12_size_17 (by decide) ?_
    exact kl_i (v := (-1)) hQQ hx hb hr hlocks hS dX12_size_18 ⟨0, (-1), zn, eY, zl, ⟨hP, hD⟩, g_zn, g_eY⟩

set_option maxHeartbeats 40000000 in
set_option maxRecDepth 100000 in
theorem y_byteOf (l : Launch) (dC : Nat → ClassId) (dI : Nat → Nat → Nat) (cI cS : ClassId) (sz : Nat) (oM : Nat) (mT : Nat) (mS : Nat) (mX : Nat) (mL : Nat) (mB : Nat) (mD : Nat) (m1 : Nat) (m2 : Nat) (mR : Nat) (x1 : Nat) (x2 : Nat) (x3 : Nat) (mH : Nat) (mY : Nat) (mE : Nat) (mW : Nat) (mO : Nat) (y1 : Nat) (y2 : Nat) (y3 : Nat) (y4 : Nat) (mZ : Nat) (zt : Int32) (zp : Int32) (zf : Int32) (zh : Int32) (zr : Int32) (zc : Int32) (zy : Int32) (za : Int32) (zb : Int32) (zs : Int32) (zq : Int32) (zw : Int32) (ze : Int32) (zn : Int32) (zm : Int32) (zl : Int32) (zk : Int32) (zd : Int32) (eY : Nat → Int32) (eB : Nat → Int32) (eS : Nat → Int32) (eX : Nat → Int32) (cd : Int32) (i : Int32) (g_zt : 0 ≤ zt.toInt ∧ zt.toInt ≤ 900) (g_zp : 0 ≤ zp.toInt ∧ zp.toInt ≤ 20) (g_zf : 0 ≤ zf.toInt ∧ zf.toInt ≤ 19) (g_zh : 0 ≤ zh.toInt ∧ zh.toInt ≤ 6) (g_zr : 0 ≤ zr.toInt ∧ zr.toInt ≤ 258) (g_zc : 0 ≤ zc.toInt ∧ zc.toInt ≤ 300) (g_zy : 0 ≤ zy.toInt ∧ zy.toInt ≤ 65536) (g_za : 0 ≤ za.toInt ∧ za.toInt ≤ 5) (g_zb : 0 ≤ zb.toInt ∧ zb.toInt ≤ 5) (g_zs : 0 ≤ zs.toInt ∧ zs.toInt ≤ 2000000) (g_zq : -1 ≤ zq.toInt ∧ zq.toInt ≤ 2000000) (g_zn : 0 ≤ zn.toInt ∧ zn.toInt ≤ 2600) (g_zm : 0 ≤ zm.toInt ∧ zm.toInt ≤ 2600) (g_zk : 0 ≤ zk.toInt ∧ zk.toInt ≤ 300) (g_eY : rg 0 255 eY) (g_eB : rg (-1) 255 eB) (g_eS : rg 0 300 eS) (g_eX : rg 0 65535 eX) (hzs : zs.toInt ≤ 1000000) : kMi l yX12_byteOf wsX12_byteOf ({ frames := 3, cells := 0, slots := 0, locals := 68 } : Room) [.ref oM, .int cd, .int i] sz (dC, dI) vwCl [(cI, .int), (cS, .short)] [(oM, .inr (12, [.ref mT, .int zt, .ref mS, .ref mX, .int zp, .int zf, .ref mL, .ref mB, .ref mD, .ref m1, .ref m2, .int zh, .ref mR, .int zr, .ref x1, .ref x2, .ref x3, .int zc, .ref mH, .int zy, .int za, .int zb, .int zs, .int zq, .int zw, .int ze, .ref mY, .int zn, .ref mE, .int zm, .int zl, .ref mW, .int zk, .ref mO, .int zd, .ref y1, .ref y2, .ref y3, .ref y4, .ref mZ])), (mY, .inl (cI, 2600, .inl eY)), (mB, .inl (cS, 131072, .inl eB)), (mS, .inl (cI, 21, .inl eS)), (mX, .inl (cI, 6300, .inl eX))] (fun _ => True) 0 0 (fun (A : Nat → Prop) (r : Int32) (hh9 : Heap) => ∃ (ze' : Int32) (zw' : Int32) (zn' : Int32) (eY' : Nat → Int32) (zl' : Int32), kPD (dC, dI) vwCl A [(oM, .inr (12, [.ref mT, .int zt, .ref mS, .ref mX, .int zp, .int zf, .ref mL, .ref mB, .ref mD, .ref m1, .ref m2, .int zh, .ref mR, .int zr, .ref x1, .ref x2, .ref x3, .int zc, .ref mH, .int zy, .int za, .int zb, .int zs, .int zq, .int zw', .int ze', .ref mY, .int zn', .ref mE, .int zm, .int zl', .ref mW, .int zk, .ref mO, .int zd, .ref y1, .ref y2, .ref y3, .ref y4, .ref mZ])), (mY, .inl (cI, 2600, .inl eY')), (mB, .inl (cS, 131072, .inl eB)), (mS, .inl (cI, 21, .inl eS)), (mX, .inl (cI, 6300, .inl eX))] hh9 ∧ (0 ≤ zn'.toInt ∧ zn'.toInt ≤ 2600) ∧ (rg 0 255 eY')) := by
  refine kMi_of (cc := cX12_byteOf) (maxL := 3) (ret := (some .int)) (lv := [(0, .ref oM), (1, .int cd), (2, .int i)]) (by decide +kernel) rfl rfl (Nat.le_of_ble_eq_true rfl) ?_
  intro p e s m below meth c A QQ ls hx hb hr hts hml hown hlocks hA hQQ hK hX hP hD hS hl
  have hown : s.vm.findClass RX12 = some m.cls := hown
  have hcf := k_cf hx hb hml hown hts
  have in_X12 : ∀ w ∈ wsX120, w ∈ wsX12_byteOf := fun _ h => List.mem_cons_of_mem _ (List.mem_append_right _ (h))
  replace g_zt := hid g_zt
  replace g_zp := hid g_zp
  replace g_zf := hid g_zf
  replace g_zh := hid g_zh
  replace g_zr := hid g_zr
  replace g_zc := hid g_zc
  replace g_zy := hid g_zy
  replace g_za := hid g_za
  replace g_zb := hid g_zb
  replace g_zs := hid g_zs
  replace g_zq := hid g_zq
  replace g_zn := hid g_zn
  replace g_zm := hid g_zm
  replace g_zk := hid g_zk
  refine lv_aload_n hx hb dX12_byteOf_0 rfl (lv_at hl 0 rfl) ?_
  refine lv_iconst (v := 0) hx hb dX12_byteOf_1 (by decide) ?_
  refine va_put (D := (dC, dI)) (ci := 12) (v := .int 0) (ty := .int) (C := RX12) (T := TX12) (N := 40) hx hb hts in_X12 tyX12 tyX12_ok nmX12 hown hK hP hD hS 0 rfl rfl 25 (by decide) (hts (.fieldLink RX12 85 "TextMenderModel" "thrown" "I") (List.mem_of_getElem? (i := 1) rfl)) (fun _ h9 => h9) rfl (by decide +kernel) rfl rfl (Nat.le_of_ble_eq_true rfl) dX12_byteOf_2 (kW (wn := [(oM, .inr (12, [.ref mT, .int zt, .ref mS, .ref mX, .int zp, .int zf, .ref mL, .ref mB, .ref mD, .ref m1, .ref m2, .int zh, .ref mR, .int zr, .ref x1, .ref x2, .ref x3, .int zc, .ref mH, .int zy, .int za, .int zb, .int zs, .int zq, .int zw, .int 0, .ref mY, .int zn, .ref mE, .int zm, .int zl, .ref mW, .int zk, .ref mO, .int zd, .ref y1, .ref y2, .ref y3, .ref y4, .ref mZ])), (mY, .inl (cI, 2600, .inl eY)), (mB, .inl (cS, 131072, .inl eB)), (mS, .inl (cI, 21, .inl eS)), (mX, .inl (cI, 6300, .inl eX))]) rfl (fun H locs hPn hDn hSn => ?_))
  clear hP hD hS
  have hP := hPn
  have hD := hDn
  have hS := hSn
  clear hPn hDn hSn
  refine lv_aload_n hx hb dX12_byteOf_5 rfl (lv_at hl 0 rfl) ?_
  refine lv_iconst (v := (-1)) hx hb dX12_byteOf_6 (by decide) ?_
  refine va_put (D := (dC, dI)) (ci := 12) (v := .int (-1)) (ty := .int) (C := RX12) (T := TX12) (N := 40) hx hb hts in_X12 tyX12 tyX12_ok nmX12 hown hK hP hD hS 0 rfl rfl 24 (by decide) (hts (.fieldLink RX12 55 "TextMenderModel" "where" "I") (List.mem_of_getElem? (i := 2) rfl)) (fun _ h9 => h9) rfl (by decide +kernel) rfl rfl (Nat.le_of_ble_eq_true rfl) dX12_byteOf_7 (kW (wn := [(oM, .inr (12, [.ref mT, .int zt, .ref mS, .ref mX, .int zp, .int zf, .ref mL, .ref mB, .ref mD, .ref m1, .ref m2, .int zh, .ref mR, .int zr, .ref x1, .ref x2, .ref x3, .int zc, .ref mH, .int zy, .int za, .int zb, .int zs, .int zq, .int (-1), .int 0, .ref mY, .int zn, .ref mE, .int zm, .int zl, .ref mW, .int zk, .ref mO, .int zd, .ref y1, .ref y2, .ref y3, .ref y4, .ref mZ])), (mY, .inl (cI, 2600, .inl eY)), (mB, .inl (cS, 131072, .inl eB)), (mS, .inl (cI, 21, .inl eS)), (mX, .inl (cI, 6300, .inl eX))]) rfl (fun H locs hPn hDn hSn => ?_))
  clear hP hD hS
  have hP := hPn
  have hD := hDn
  have hS := hSn
  clear hPn hDn hSn
  refine lv_iload_n hx hb dX12_byteOf_10 rfl (lv_at hl 1 rfl) ?_
  refine kS_i (rest := []) hcf (m_X12_isCode l dC dI cI cS H.size cd ) kc_X12_isCode gX12_byteOf_X12_isCode rfl rfl ⟨Nat.le_of_ble_eq_true rfl, Nat.le_of_ble_eq_true rfl⟩ kX_t hK hP hD hS hA [] [0, 1, 2, 3, 4] rfl (by decide +kernel) rfl hl rfl (Nat.le_of_ble_eq_true rfl) dX12_byteOf_11 ⟨Nat.le_of_ble_eq_true rfl, Nat.le_of_ble_eq_true rfl⟩ (fun r_1 H locs hB hJ hSn => ?_)
  obtain ⟨⟨hP1, hD1⟩, hf1_0, hf1_1⟩ := hB
  obtain ⟨hPn, hDn⟩ := hJ _ hP1 hD1 [(oM, .inr (12, [.ref mT, .int zt, .ref mS, .ref mX, .int zp, .int zf, .ref mL, .ref mB, .ref mD, .ref m1, .ref m2, .int zh, .ref mR, .int zr, .ref x1, .ref x2, .ref x3, .int zc, .ref mH, .int zy, .int za, .int zb, .int zs, .int zq, .int (-1), .int 0, .ref mY, .int zn, .ref mE, .int zm, .int zl, .ref mW, .int zk, .ref mO, .int zd, .ref y1, .ref y2, .ref y3, .ref y4, .ref mZ])), (mY, .inl (cI, 2600, .inl eY)), (mB, .inl (cS, 131072, .inl eB)), (mS, .inl (cI, 21, .inl eS)), (mX, .inl (cI, 6300, .inl eX))] rfl
  clear hP hD hS hJ hP1 hD1
  have hP := hPn
  have hD := hDn
  have hS := hSn
  clear hPn hDn hSn
  refine lv_if_ne (tgt := 19) hx hb dX12_byteOf_14 (by decide) (fun c_2 => ?_) (fun c_2 => ?_)
  · have tc_2 : ¬ r_1.toInt = 0 := v_ne c_2
    refine lv_aload_n hx hb dX12_byteOf_19 rfl (lv_at hl 0 rfl) ?_
    refine lv_iload_n hx hb dX12_byteOf_20 rfl (lv_at hl 1 rfl) ?_
    refine lv_aload_n hx hb dX12_byteOf_21 rfl (lv_at hl 0 rfl) ?_
    refine va_get (D := (dC, dI)) (ci := 12) (v := .ref mX) (C := RX12) (T := TX12) (N := 40) hx hb hts in_X12 hown hK hP 0 rfl rfl 3 (by decide) (hts (.fieldLink RX12 16 "TextMenderModel" "texts" "[I") (List.mem_of_getElem? (i := 3) rfl)) (fun _ h9 => h9) rfl dX12_byteOf_22 ?_
    refine lv_aload_n hx hb dX12_byteOf_25 rfl (lv_at hl 0 rfl) ?_
    refine va_get (D := (dC, dI)) (ci := 12) (v := .ref mS) (C := RX12) (T := TX12) (N := 40) hx hb hts in_X12 hown hK hP 0 rfl rfl 2 (by decide) (hts (.fieldLink RX12 13 "TextMenderModel" "sizes" "[I") (List.mem_of_getElem? (i := 4) rfl)) (fun _ h9 => h9) rfl dX12_byteOf_26 ?_
    refine lv_iconst (v := 0) hx hb dX12_byteOf_29 (by decide) ?_
    refine va_iald hx hb hK hP 3 0 rfl rfl (by unfold vp_in; decide) dX12_byteOf_30 ?_
    refine lv_topi (fun x_3 ex_3 => ?_)
    have tx_3 : 0 ≤ x_3.toInt ∧ x_3.toInt ≤ 300 := rg_at g_eS ex_3
    refine kV_i (rest := []) (q0 := 0) (ci := 12) hcf (m_X12_write l dC dI cI cS H.size oM mX mT mS mX mL mB mD m1 m2 mR x1 x2 x3 mH mY mE mW mO y1 y2 y3 y4 mZ 6300 zt zp zf zh zr zc zy za zb zs zq (-1) 0 zn zm zl zk zd eY eB eX cd x_3 (g_zt) (g_zp) (g_zf) (g_zh) (g_zr) (g_zc) (g_zy) (g_za) (g_zb) (g_zs) (g_zq) (g_zn) (g_zm) (g_zk) (g_eY) (g_eB) (g_eX) (by omega) (v_rr tx_3 (by decide) (by decide)) (by omega) (by omega)) kc_X12_write gX12_byteOf_X12_write rfl rfl rfl ⟨Nat.le_of_ble_eq_true rfl, Nat.le_of_ble_eq_true rfl⟩ kX_t hK hP hD hS hA [0, 1, 2, 4] [3] rfl (by decide +kernel) rfl rfl rfl hl rfl (Nat.le_of_ble_eq_true rfl) dX12_byteOf_31 ⟨Nat.le_of_ble_eq_true rfl, Nat.le_of_ble_eq_true rfl⟩ (fun r_4 H locs hB hJ hSn => ?_)
    obtain ⟨zn_4, eY_4, zl_4, ⟨hP1, hD1⟩, hf4_0, hf4_1, hf4_2⟩ := hB
    obtain ⟨hPn, hDn⟩ := hJ _ hP1 hD1 [(mS, .inl (cI, 21, .inl eS)), (oM, .inr (12, [.ref mT, .int zt, .ref mS, .ref mX, .int zp, .int zf, .ref mL, .ref mB, .ref mD, .ref m1, .ref m2, .int zh, .ref mR, .int zr, .ref x1, .ref x2, .ref x3, .int zc, .ref mH, .int zy, .int za, .int zb, .int zs, .int zq, .int (-1), .int 0, .ref mY, .int zn_4, .ref mE, .int zm, .int zl_4, .ref mW, .int zk, .ref mO, .int zd, .ref y1, .ref y2, .ref y3, .ref y4, .ref mZ])), (mY, .inl (cI, 2600, .inl eY_4)), (mB, .inl (cS, 131072, .inl eB)), (mX, .inl (cI, 6300, .inl eX))] rfl
    clear hP hD hS hJ hP1 hD1
    have hP := hPn
    have hD := hDn
    have hS := hSn
    clear hPn hDn hSn
    refine lv_if_ne (tgt := 47) hx hb dX12_byteOf_34 (by decide) (fun c_5 => ?_) (fun c_5 => ?_)
    · have tc_5 : ¬ r_4.toInt = 0 := v_ne c_5
      refine lv_iload_n hx hb dX12_byteOf_47 rfl (lv_at hl 2 rfl) ?_
      refine lv_if_lt (tgt := 68) hx hb dX12_byteOf_48 (by decide) (fun c_6 => ?_) (fun c_6 => ?_)
      · have tc_6 : i.toInt < 0 := v_lt c_6
        refine lv_iconst (v := (-1)) hx hb dX12_byteOf_68 (by decide) ?_
        exact kl_i (v := (-1)) hQQ hx hb hr hlocks hS dX12_byteOf_69 ⟨0, (-1), zn_4, eY_4, zl_4, kPD_sub hP hD [1, 2, 3, 0, 4] (by decide +kernel) rfl, hf4_0, hf4_1⟩
      · have tc_6 : 0 ≤ i.toInt := v_nlt c_6
        refine lv_iload_n hx hb dX12_byteOf_51 rfl (lv_at hl 2 rfl) ?_
        refine lv_aload_n hx hb dX12_byteOf_52 rfl (lv_at hl 0 rfl) ?_
        refine va_get (D := (dC, dI)) (ci := 12) (v := .int zn_4) (C := RX12) (T := TX12) (N := 40) hx hb hts in_X12 hown hK hP 1 rfl rfl 27 (by decide) (hts (.fieldLink RX12 91 "TextMenderModel" "byteMany" "I") (List.mem_of_getElem? (i := 6) rfl)) (fun _ h9 => h9) rfl dX12_byteOf_53 ?_
        refine lv_icmp_ge (tgt := 68) hx hb dX12_byteOf_56 (by decide) (fun c_7 => ?_) (fun c_7 => ?_)
        · have tc_7 : zn_4.toInt ≤ i.toInt := v_le c_7
          have rw7_0 := v_rng i
          refine lv_iconst (v := (-1)) hx hb dX12_byteOf_68 (by decide) ?_
          exact kl_i (v := (-1)) hQQ hx hb hr hlocks hS dX12_byteOf_69 ⟨0, (-1), zn_4, eY_4, zl_4, kPD_sub hP hD [1, 2, 3, 0, 4] (by decide +kernel) rfl, hf4_0, hf4_1⟩
        · have tc_7 : i.toInt < zn_4.toInt := v_nle c_7
          have rw7_0 := v_rng i
          refine lv_aload_n hx hb dX12_byteOf_59 rfl (lv_at hl 0 rfl) ?_
          refine va_get (D := (dC, dI)) (ci := 12) (v := .ref mY) (C := RX12) (T := TX12) (N := 40) hx hb hts in_X12 hown hK hP 1 rfl rfl 26 (by decide) (hts (.fieldLink RX12 58 "TextMenderModel" "bytes" "[I") (List.mem_of_getElem? (i := 7) rfl)) (fun _ h9 => h9) rfl dX12_byteOf_60 ?_
          refine lv_iload_n hx hb dX12_byteOf_63 rfl (lv_at hl 2 rfl) ?_
          refine va_iald hx hb hK hP 2 0 rfl rfl (v_in (by omega)) dX12_byteOf_64 ?_
          refine lv_topi (fun x_8 ex_8 => ?_)
          have tx_8 : 0 ≤ x_8.toInt ∧ x_8.toInt ≤ 255 := rg_at hf4_1 ex_8
          refine lv_goto (tgt := 69) hx hb dX12_byteOf_65 (by decide) ?_
          exact kl_i (v := x_8) hQQ hx hb hr hlocks hS dX12_byteOf_69 ⟨0, (-1), zn_4, eY_4, zl_4, kPD_sub hP hD [1, 2, 3, 0, 4] (by decide +kernel) rfl, hf4_0, hf4_1⟩
    · have tc_5 : r_4.toInt = 0 := v_eq c_5
      refine lv_aload_n hx hb dX12_byteOf_37 rfl (lv_at hl 0 rfl) ?_
      refine lv_aload_n hx hb dX12_byteOf_38 rfl (lv_at hl 0 rfl) ?_
      refine va_get (D := (dC, dI)) (ci := 12) (v := .int zl_4) (C := RX12) (T := TX12) (N := 40) hx hb hts in_X12 hown hK hP 1 rfl rfl 30 (by decide) (hts (.fieldLink RX12 102 "TextMenderModel" "faultAt" "I") (List.mem_of_getElem? (i := 5) rfl)) (fun _ h9 => h9) rfl dX12_byteOf_39 ?_
      refine va_put (D := (dC, dI)) (ci := 12) (v := .int zl_4) (ty := .int) (C := RX12) (T := TX12) (N := 40) hx hb hts in_X12 tyX12 tyX12_ok nmX12 hown hK hP hD hS 1 rfl rfl 24 (by decide) (hts (.fieldLink RX12 55 "TextMenderModel" "where" "I") (List.mem_of_getElem? (i := 2) rfl)) (fun _ h9 => h9) rfl (by decide +kernel) rfl rfl (Nat.le_of_ble_eq_true rfl) dX12_byteOf_42 (kW (wn := [(mS, .inl (cI, 21, .inl eS)), (oM, .inr (12, [.ref mT, .int zt, .ref mS, .ref mX, .int zp, .int zf, .ref mL, .ref mB, .ref mD, .ref m1, .ref m2, .int zh, .ref mR, .int zr, .ref x1, .ref x2, .ref x3, .int zc, .ref mH, .int zy, .int za, .int zb, .int zs, .int zq, .int zl_4, .int 0, .ref mY, .int zn_4, .ref mE, .int zm, .int zl_4, .ref mW, .int zk, .ref mO, .int zd, .ref y1, .ref y2, .ref y3, .ref y4, .ref mZ])), (mY, .inl (cI, 2600, .inl eY_4)), (mB, .inl (cS, 131072, .inl eB)), (mX, .inl (cI, 6300, .inl eX))]) rfl (fun H locs hPn hDn hSn => ?_))
      clear hP hD hS
      have hP := hPn
      have hD := hDn
      have hS := hSn
      clear hPn hDn hSn
      refine lv_iconst (v := (-1)) hx hb dX12_byteOf_45 (by decide) ?_
      exact kl_i (v := (-1)) hQQ hx hb hr hlocks hS dX12_byteOf_46 ⟨0, zl_4, zn_4, eY_4, zl_4, kPD_sub hP hD [1, 2, 3, 0, 4] (by decide +kernel) rfl, hf4_0, hf4_1⟩
  · have tc_2 : r_1.toInt = 0 := v_eq c_2
    refine lv_iconst (v := (-1)) hx hb dX12_byteOf_17 (by decide) ?_
    exact kl_i (v := (-1)) hQQ hx hb hr hlocks hS dX12_byteOf_18 ⟨0, (-1), zn, eY, zl, ⟨hP, hD⟩, g_zn, g_eY⟩

set_option maxHeartbeats 40000000 in
set_option maxRecDepth 100000 in
theorem m_X12_canCome (l : Launch) (dC : Nat → ClassId) (dI : Nat → Nat → Nat) (cI cS : ClassId) (sz : Nat) (oM : Nat) (mT : Nat) (mS : Nat) (mX : Nat) (mL : Nat) (mB : Nat) (mD : Nat) (m1 : Nat) (m2 : Nat) (mR : Nat) (x1 : Nat) (x2 : Nat) (x3 : Nat) (mH : Nat) (mY : Nat) (mE : Nat) (mW : Nat) (mO : Nat) (y1 : Nat) (y2 : Nat) (y3 : Nat) (y4 : Nat) (mZ : Nat) (zt : Int32) (zp : Int32) (zf : Int32) (zh : Int32) (zr : Int32) (zc : Int32) (zy : Int32) (za : Int32) (zb : Int32) (zs : Int32) (zq : Int32) (zw : Int32) (ze : Int32) (zn : Int32) (zm : Int32) (zl : Int32) (zk : Int32) (zd : Int32) (eL : Nat → Int32) (cd : Int32) (v : Int32) (g_zt : 0 ≤ zt.toInt ∧ zt.toInt ≤ 900) (g_zp : 0 ≤ zp.toInt ∧ zp.toInt ≤ 20) (g_zf : 0 ≤ zf.toInt ∧ zf.toInt ≤ 19) (g_zh : 0 ≤ zh.toInt ∧ zh.toInt ≤ 6) (g_zr : 0 ≤ zr.toInt ∧ zr.toInt ≤ 258) (g_zc : 0 ≤ zc.toInt ∧ zc.toInt ≤ 300) (g_zy : 0 ≤ zy.toInt ∧ zy.toInt ≤ 65536) (g_za : 0 ≤ za.toInt ∧ za.toInt ≤ 5) (g_zb : 0 ≤ zb.toInt ∧ zb.toInt ≤ 5) (g_zs : 0 ≤ zs.toInt ∧ zs.toInt ≤ 2000000) (g_zq : -1 ≤ zq.toInt ∧ zq.toInt ≤ 2000000) (g_zn : 0 ≤ zn.toInt ∧ zn.toInt ≤ 2600) (g_zm : 0 ≤ zm.toInt ∧ zm.toInt ≤ 2600) (g_zk : 0 ≤ zk.toInt ∧ zk.toInt ≤ 300) (g_eL : rg (-1) 65535 eL) (g_cd : 0 ≤ cd.toInt ∧ cd.toInt ≤ 5) (g_v : 0 ≤ v.toInt ∧ v.toInt ≤ 255) : kMi l yX12_canCome wsX12_canCome ({ frames := 0, cells := 0, slots := 0, locals := 0 } : Room) [.ref oM, .int cd, .int v] sz (dC, dI) vwCl [(cI, .int), (cS, .short)] [(oM, .inr (12, [.ref mT, .int zt, .ref mS, .ref mX, .int zp, .int zf, .ref mL, .ref mB, .ref mD, .ref m1, .ref m2, .int zh, .ref mR, .int zr, .ref x1, .ref x2, .ref x3, .int zc, .ref mH, .int zy, .int za, .int zb, .int zs, .int zq, .int zw, .int ze, .ref mY, .int zn, .ref mE, .int zm, .int zl, .ref mW, .int zk, .ref mO, .int zd, .ref y1, .ref y2, .ref y3, .ref y4, .ref mZ])), (mL, .inl (cI, 512, .inl eL))] (fun _ => True) 0 0 (fun (A : Nat → Prop) (r : Int32) (hh9 : Heap) => kPD (dC, dI) vwCl A [(oM, .inr (12, [.ref mT, .int zt, .ref mS, .ref mX, .int zp, .int zf, .ref mL, .ref mB, .ref mD, .ref m1, .ref m2, .int zh, .ref mR, .int zr, .ref x1, .ref x2, .ref x3, .int zc, .ref mH, .int zy, .int za, .int zb, .int zs, .int zq, .int zw, .int ze, .ref mY, .int zn, .ref mE, .int zm, .int zl, .ref mW, .int zk, .ref mO, .int zd, .ref y1, .ref y2, .ref y3, .ref y4, .ref mZ])), (mL, .inl (cI, 512, .inl eL))] hh9 ∧ (0 ≤ r.toInt ∧ r.toInt ≤ 1)) := by
  refine kMi_of (cc := cX12_canCome) (maxL := 3) (ret := (some .boolean)) (lv := [(0, .ref oM), (1, .int cd), (2, .int v)]) (by decide +kernel) rfl rfl (Nat.le_of_ble_eq_true rfl) ?_
  intro p e s m below meth c A QQ ls hx hb hr hts hml hown hlocks hA hQQ hK hX hP hD hS hl
  have hown : s.vm.findClass RX12 = some m.cls := hown
  have hcf := k_cf hx hb hml hown hts
  have in_X12 : ∀ w ∈ wsX120, w ∈ wsX12_canCome := fun _ h => List.mem_cons_of_mem _ (List.mem_append_right _ (h))
  replace g_zt := hid g_zt
  replace g_zp := hid g_zp
  replace g_zf := hid g_zf
  replace g_zh := hid g_zh
  replace g_zr := hid g_zr
  replace g_zc := hid g_zc
  replace g_zy := hid g_zy
  replace g_za := hid g_za
  replace g_zb := hid g_zb
  replace g_zs := hid g_zs
  replace g_zq := hid g_zq
  replace g_zn := hid g_zn
  replace g_zm := hid g_zm
  replace g_zk := hid g_zk
  refine lv_iload_n hx hb dX12_canCome_0 rfl (lv_at hl 1 rfl) ?_
  refine lv_if_eq (tgt := 9) hx hb dX12_canCome_1 (by decide) (fun c_1 => ?_) (fun c_1 => ?_)
  · have tc_1 : cd.toInt = 0 := v_eq c_1
    refine lv_iload_n hx hb dX12_canCome_9 rfl (lv_at hl 2 rfl) ?_
    refine lv_sipush (v := 128) hx hb dX12_canCome_10 (by decide) ?_
    refine lv_icmp_ge (tgt := 20) hx hb dX12_canCome_13 (by decide) (fun c_2 => ?_) (fun c_2 => ?_)
    · have tc_2 : 128 ≤ v.toInt := v_le c_2
      refine lv_iconst (v := 0) hx hb dX12_canCome_20 (by decide) ?_
      exact kl_z (v := 0) hQQ hx hb hr hlocks hS dX12_canCome_21 (rfl) ⟨⟨hP, hD⟩, by decide⟩
    · have tc_2 : v.toInt < 128 := v_nle c_2
      refine lv_iconst (v := 1) hx hb dX12_canCome_16 (by decide) ?_
      refine lv_goto (tgt := 21) hx hb dX12_canCome_17 (by decide) ?_
      exact kl_z (v := 1) hQQ hx hb hr hlocks hS dX12_canCome_21 (rfl) ⟨⟨hP, hD⟩, by decide⟩
  · have tc_1 : ¬ cd.toInt = 0 := v_ne c_1
    refine lv_iload_n hx hb dX12_canCome_4 rfl (lv_at hl 1 rfl) ?_
    refine lv_iconst (v := 3) hx hb dX12_canCome_5 (by decide) ?_
    refine lv_icmp_ne (tgt := 22) hx hb dX12_canCome_6 (by decide) (fun c_3 => ?_) (fun c_3 => ?_)
    · have tc_3 : ¬ cd.toInt = 3 := v_ne c_3
      refine lv_iload_n hx hb dX12_canCome_22 rfl (lv_at hl 1 rfl) ?_
      refine lv_iconst (v := 1) hx hb dX12_canCome_23 (by decide) ?_
      refine lv_icmp_ne (tgt := 29) hx hb dX12_canCome_24 (by decide) (fun c_4 => ?_) (fun c_4 => ?_)
      · have tc_4 : ¬ cd.toInt = 1 := v_ne c_4
        refine lv_iload_n hx hb dX12_canCome_29 rfl (lv_at hl 1 rfl) ?_
        refine lv_iconst (v := 2) hx hb dX12_canCome_30 (by decide) ?_
        refine lv_icmp_ne (tgt := 61) hx hb dX12_canCome_31 (by decide) (fun c_5 => ?_) (fun c_5 => ?_)
        · have tc_5 : ¬ cd.toInt = 2 := v_ne c_5
          refine lv_aload_n hx hb dX12_canCome_61 rfl (lv_at hl 0 rfl) ?_
          refine va_get (D := (dC, dI)) (ci := 12) (v := .ref mL) (C := RX12) (T := TX12) (N := 40) hx hb hts in_X12 hown hK hP 0 rfl rfl 6 (by decide) (hts (.fieldLink RX12 19 "TextMenderModel" "letterOf" "[I") (List.mem_of_getElem? (i := 1) rfl)) (fun _ h9 => h9) rfl dX12_canCome_62 ?_
          refine lv_sipush (v := 256) hx hb dX12_canCome_65 (by decide) ?_
          refine lv_iload_n hx hb dX12_canCome_68 rfl (lv_at hl 1 rfl) ?_
          refine lv_iconst (v := 4) hx hb dX12_canCome_69 (by decide) ?_
          refine lv_isub hx hb dX12_canCome_70 ?_
          refine lv_topi (fun x_6 ex_6 => ?_)
          have tx_6 : x_6.toInt = cd.toInt - 4 := v_subR (l2 := 4) (h2 := 4) ex_6 g_cd (by decide) (by decide) (by decide)
          refine lv_imul hx hb dX12_canCome_71 ?_
          refine lv_topi (fun x_7 ex_7 => ?_)
          have tx_7 : x_7.toInt = 256 * x_6.toInt := v_mul ex_7 (by show -2147483648 ≤ 256 * x_6.toInt; omega) (by show 256 * x_6.toInt < 2147483648; omega)
          refine lv_iload_n hx hb dX12_canCome_72 rfl (lv_at hl 2 rfl) ?_
          refine lv_iadd hx hb dX12_canCome_73 ?_
          refine lv_topi (fun x_8 ex_8 => ?_)
          have tx_8 : x_8.toInt = x_7.toInt + v.toInt := v_add ex_8 (by show -2147483648 ≤ x_7.toInt + v.toInt; omega) (by show x_7.toInt + v.toInt < 2147483648; omega)
          refine va_iald hx hb hK hP 1 0 rfl rfl (v_in (by omega)) dX12_canCome_74 ?_
          refine lv_topi (fun x_9 ex_9 => ?_)
          have tx_9 : -1 ≤ x_9.toInt ∧ x_9.toInt ≤ 65535 := rg_at g_eL ex_9
          refine lv_iconst (v := (-1)) hx hb dX12_canCome_75 (by decide) ?_
          refine lv_icmp_eq (tgt := 83) hx hb dX12_canCome_76 (by decide) (fun c_10 => ?_) (fun c_10 => ?_)
          · have tc_10 : x_9.toInt = (-1) := v_eq c_10
            refine lv_iconst (v := 0) hx hb dX12_canCome_83 (by decide) ?_
            exact kl_z (v := 0) hQQ hx hb hr hlocks hS dX12_canCome_84 (rfl) ⟨⟨hP, hD⟩, by decide⟩
          · have tc_10 : ¬ x_9.toInt = (-1) := v_ne c_10
            refine lv_iconst (v := 1) hx hb dX12_canCome_79 (by decide) ?_
            refine lv_goto (tgt := 84) hx hb dX12_canCome_80 (by decide) ?_
            exact kl_z (v := 1) hQQ hx hb hr hlocks hS dX12_canCome_84 (rfl) ⟨⟨hP, hD⟩, by decide⟩
        · have tc_5 : cd.toInt = 2 := v_eq c_5
          refine lv_iload_n hx hb dX12_canCome_34 rfl (lv_at hl 2 rfl) ?_
          refine lv_sipush (v := 192) hx hb dX12_canCome_35 (by decide) ?_
          refine lv_icmp_lt (tgt := 55) hx hb dX12_canCome_38 (by decide) (fun c_11 => ?_) (fun c_11 => ?_)
          · have tc_11 : v.toInt < 192 := v_lt c_11
            refine lv_iconst (v := 1) hx hb dX12_canCome_55 (by decide) ?_
            refine lv_goto (tgt := 60) hx hb dX12_canCome_56 (by decide) ?_
            exact kl_z (v := 1) hQQ hx hb hr hlocks hS dX12_canCome_60 (rfl) ⟨⟨hP, hD⟩, by decide⟩
          · have tc_11 : 192 ≤ v.toInt := v_nlt c_11
            refine lv_iload_n hx hb dX12_canCome_41 rfl (lv_at hl 2 rfl) ?_
            refine lv_sipush (v := 193) hx hb dX12_canCome_42 (by decide) ?_
            refine lv_icmp_le (tgt := 59) hx hb dX12_canCome_45 (by decide) (fun c_12 => ?_) (fun c_12 => ?_)
            · have tc_12 : v.toInt ≤ 193 := v_le c_12
              refine lv_iconst (v := 0) hx hb dX12_canCome_59 (by decide) ?_
              exact kl_z (v := 0) hQQ hx hb hr hlocks hS dX12_canCome_60 (rfl) ⟨⟨hP, hD⟩, by decide⟩
            · have tc_12 : 193 < v.toInt := v_nle c_12
              refine lv_iload_n hx hb dX12_canCome_48 rfl (lv_at hl 2 rfl) ?_
              refine lv_sipush (v := 240) hx hb dX12_canCome_49 (by decide) ?_
              refine lv_icmp_ge (tgt := 59) hx hb dX12_canCome_52 (by decide) (fun c_13 => ?_) (fun c_13 => ?_)
              · have tc_13 : 240 ≤ v.toInt := v_le c_13
                refine lv_iconst (v := 0) hx hb dX12_canCome_59 (by decide) ?_
                exact kl_z (v := 0) hQQ hx hb hr hlocks hS dX12_canCome_60 (rfl) ⟨⟨hP, hD⟩, by decide⟩
              · have tc_13 : v.toInt < 240 := v_nle c_13
                refine lv_iconst (v := 1) hx hb dX12_canCome_55 (by decide) ?_
                refine lv_goto (tgt := 60) hx hb dX12_canCome_56 (by decide) ?_
                exact kl_z (v := 1) hQQ hx hb hr hlocks hS dX12_canCome_60 (rfl) ⟨⟨hP, hD⟩, by decide⟩
      · have tc_4 : cd.toInt = 1 := v_eq c_4
        refine lv_iconst (v := 1) hx hb dX12_canCome_27 (by decide) ?_
        exact kl_z (v := 1) hQQ hx hb hr hlocks hS dX12_canCome_28 (rfl) ⟨⟨hP, hD⟩, by decide⟩
    · have tc_3 : cd.toInt = 3 := v_eq c_3
      refine lv_iload_n hx hb dX12_canCome_9 rfl (lv_at hl 2 rfl) ?_
      refine lv_sipush (v := 128) hx hb dX12_canCome_10 (by decide) ?_
      refine lv_icmp_ge (tgt := 20) hx hb dX12_canCome_13 (by decide) (fun c_14 => ?_) (fun c_14 => ?_)
      · have tc_14 : 128 ≤ v.toInt := v_le c_14
        refine lv_iconst (v := 0) hx hb dX12_canCome_20 (by decide) ?_
        exact kl_z (v := 0) hQQ hx hb hr hlocks hS dX12_canCome_21 (rfl) ⟨⟨hP, hD⟩, by decide⟩
      · have tc_14 : v.toInt < 128 := v_nle c_14
        refine lv_iconst (v := 1) hx hb dX12_canCome_16 (by decide) ?_
        refine lv_goto (tgt := 21) hx hb dX12_canCome_17 (by decide) ?_
        exact kl_z (v := 1) hQQ hx hb hr hlocks hS dX12_canCome_21 (rfl) ⟨⟨hP, hD⟩, by decide⟩

set_option maxHeartbeats 40000000 in
set_option maxRecDepth 100000 in
theorem y_safe (l : Launch) (dC : Nat → ClassId) (dI : Nat → Nat → Nat) (cI cS : ClassId) (sz : Nat) (oM : Nat) (mT : Nat) (mS : Nat) (mX : Nat) (mL : Nat) (mB : Nat) (mD : Nat) (m1 : Nat) (m2 : Nat) (mR : Nat) (x1 : Nat) (x2 : Nat) (x3 : Nat) (mH : Nat) (mY : Nat) (mE : Nat) (mW : Nat) (mO : Nat) (y1 : Nat) (y2 : Nat) (y3 : Nat) (y4 : Nat) (mZ : Nat) (zt : Int32) (zp : Int32) (zf : Int32) (zh : Int32) (zr : Int32) (zc : Int32) (zy : Int32) (za : Int32) (zb : Int32) (zs : Int32) (zq : Int32) (zw : Int32) (ze : Int32) (zn : Int32) (zm : Int32) (zl : Int32) (zk : Int32) (zd : Int32) (eL : Nat → Int32) (a : Int32) (b : Int32) (g_zt : 0 ≤ zt.toInt ∧ zt.toInt ≤ 900) (g_zp : 0 ≤ zp.toInt ∧ zp.toInt ≤ 20) (g_zf : 0 ≤ zf.toInt ∧ zf.toInt ≤ 19) (g_zh : 0 ≤ zh.toInt ∧ zh.toInt ≤ 6) (g_zr : 0 ≤ zr.toInt ∧ zr.toInt ≤ 258) (g_zc : 0 ≤ zc.toInt ∧ zc.toInt ≤ 300) (g_zy : 0 ≤ zy.toInt ∧ zy.toInt ≤ 65536) (g_za : 0 ≤ za.toInt ∧ za.toInt ≤ 5) (g_zb : 0 ≤ zb.toInt ∧ zb.toInt ≤ 5) (g_zs : 0 ≤ zs.toInt ∧ zs.toInt ≤ 2000000) (g_zq : -1 ≤ zq.toInt ∧ zq.toInt ≤ 2000000) (g_zn : 0 ≤ zn.toInt ∧ zn.toInt ≤ 2600) (g_zm : 0 ≤ zm.toInt ∧ zm.toInt ≤ 2600) (g_zk : 0 ≤ zk.toInt ∧ zk.toInt ≤ 300) (g_eL : rg (-1) 65535 eL) (hzs : zs.toInt ≤ 1000000) : kMi l yX12_safe wsX12_safe ({ frames := 1, cells := 0, slots := 0, locals := 22 } : Room) [.ref oM, .int a, .int b] sz (dC, dI) vwCl [(cI, .int), (cS, .short)] [(oM, .inr (12, [.ref mT, .int zt, .ref mS, .ref mX, .int zp, .int zf, .ref mL, .ref mB, .ref mD, .ref m1, .ref m2, .int zh, .ref mR, .int zr, .ref x1, .ref x2, .ref x3, .int zc, .ref mH, .int zy, .int za, .int zb, .int zs, .int zq, .int zw, .int ze, .ref mY, .int zn, .ref mE, .int zm, .int zl, .ref mW, .int zk, .ref mO, .int zd, .ref y1, .ref y2, .ref y3, .ref y4, .ref mZ])), (mL, .inl (cI, 512, .inl eL))] (fun _ => True) 0 0 (fun (A : Nat → Prop) (r : Int32) (hh9 : Heap) => ∃ (ze' : Int32) (zw' : Int32), kPD (dC, dI) vwCl A [(oM, .inr (12, [.ref mT, .int zt, .ref mS, .ref mX, .int zp, .int zf, .ref mL, .ref mB, .ref mD, .ref m1, .ref m2, .int zh, .ref mR, .int zr, .ref x1, .ref x2, .ref x3, .int zc, .ref mH, .int zy, .int za, .int zb, .int zs, .int zq, .int zw', .int ze', .ref mY, .int zn, .ref mE, .int zm, .int zl, .ref mW, .int zk, .ref mO, .int zd, .ref y1, .ref y2, .ref y3, .ref y4, .ref mZ])), (mL, .inl (cI, 512, .inl eL))] hh9) := by
  refine kMi_of (cc := cX12_safe) (maxL := 5) (ret := (some .int)) (lv := [(0, .ref oM), (1, .int a), (2, .int b)]) (by decide +kernel) rfl rfl (Nat.le_of_ble_eq_true rfl) ?_
  intro p e s m below meth c A QQ ls hx hb hr hts hml hown hlocks hA hQQ hK hX hP hD hS hl
  have hown : s.vm.findClass RX12 = some m.cls := hown
  have hcf := k_cf hx hb hml hown hts
  have in_X12 : ∀ w ∈ wsX120, w ∈ wsX12_safe := fun _ h => List.mem_cons_of_mem _ (List.mem_append_right _ (h))
  replace g_zt := hid g_zt
  replace g_zp := hid g_zp
  replace g_zf := hid g_zf
  replace g_zh := hid g_zh
  replace g_zr := hid g_zr
  replace g_zc := hid g_zc
  replace g_zy := hid g_zy
  replace g_za := hid g_za
  replace g_zb := hid g_zb
  replace g_zs := hid g_zs
  replace g_zq := hid g_zq
  replace g_zn := hid g_zn
  replace g_zm := hid g_zm
  replace g_zk := hid g_zk
  refine lv_aload_n hx hb dX12_safe_0 rfl (lv_at hl 0 rfl) ?_
  refine lv_iconst (v := 0) hx hb dX12_safe_1 (by decide) ?_
  refine va_put (D := (dC, dI)) (ci := 12) (v := .int 0) (ty := .int) (C := RX12) (T := TX12) (N := 40) hx hb hts in_X12 tyX12 tyX12_ok nmX12 hown hK hP hD hS 0 rfl rfl 25 (by decide) (hts (.fieldLink RX12 85 "TextMenderModel" "thrown" "I") (List.mem_of_getElem? (i := 1) rfl)) (fun _ h9 => h9) rfl (by decide +kernel) rfl rfl (Nat.le_of_ble_eq_true rfl) dX12_safe_2 (kW (wn := [(oM, .inr (12, [.ref mT, .int zt, .ref mS, .ref mX, .int zp, .int zf, .ref mL, .ref mB, .ref mD, .ref m1, .ref m2, .int zh, .ref mR, .int zr, .ref x1, .ref x2, .ref x3, .int zc, .ref mH, .int zy, .int za, .int zb, .int zs, .int zq, .int zw, .int 0, .ref mY, .int zn, .ref mE, .int zm, .int zl, .ref mW, .int zk, .ref mO, .int zd, .ref y1, .ref y2, .ref y3, .ref y4, .ref mZ])), (mL, .inl (cI, 512, .inl eL))]) rfl (fun H locs hPn hDn hSn => ?_))
  clear hP hD hS
  have hP := hPn
  have hD := hDn
  have hS := hSn
  clear hPn hDn hSn
  refine lv_aload_n hx hb dX12_safe_5 rfl (lv_at hl 0 rfl) ?_
  refine lv_iconst (v := (-1)) hx hb dX12_safe_6 (by decide) ?_
  refine va_put (D := (dC, dI)) (ci := 12) (v := .int (-1)) (ty := .int) (C := RX12) (T := TX12) (N := 40) hx hb hts in_X12 tyX12 tyX12_ok nmX12 hown hK hP hD hS 0 rfl rfl 24 (by decide) (hts (.fieldLink RX12 55 "TextMenderModel" "where" "I") (List.mem_of_getElem? (i := 2) rfl)) (fun _ h9 => h9) rfl (by decide +kernel) rfl rfl (Nat.le_of_ble_eq_true rfl) dX12_safe_7 (kW (wn := [(oM, .inr (12, [.ref mT, .int zt, .ref mS, .ref mX, .int zp, .int zf, .ref mL, .ref mB, .ref mD, .ref m1, .ref m2, .int zh, .ref mR, .int zr, .ref x1, .ref x2, .ref x3, .int zc, .ref mH, .int zy, .int za, .int zb, .int zs, .int zq, .int (-1), .int 0, .ref mY, .int zn, .ref mE, .int zm, .int zl, .ref mW, .int zk, .ref mO, .int zd, .ref y1, .ref y2, .ref y3, .ref y4, .ref mZ])), (mL, .inl (cI, 512, .inl eL))]) rfl (fun H locs hPn hDn hSn => ?_))
  clear hP hD hS
  have hP := hPn
  have hD := hDn
  have hS := hSn
  clear hPn hDn hSn
  refine lv_iload_n hx hb dX12_safe_10 rfl (lv_at hl 1 rfl) ?_
  refine kS_i (rest := []) hcf (m_X12_isCode l dC dI cI cS H.size a ) kc_X12_isCode gX12_safe_X12_isCode rfl rfl ⟨Nat.le_of_ble_eq_true rfl, Nat.le_of_ble_eq_true rfl⟩ kX_t hK hP hD hS hA [] [0, 1] rfl (by decide +kernel) rfl hl rfl (Nat.le_of_ble_eq_true rfl) dX12_safe_11 ⟨Nat.le_of_ble_eq_true rfl, Nat.le_of_ble_eq_true rfl⟩ (fun r_1 H locs hB hJ hSn => ?_)
  obtain ⟨⟨hP1, hD1⟩, hf1_0, hf1_1⟩ := hB
  obtain ⟨hPn, hDn⟩ := hJ _ hP1 hD1 [(oM, .inr (12, [.ref mT, .int zt, .ref mS, .ref mX, .int zp, .int zf, .ref mL, .ref mB, .ref mD, .ref m1, .ref m2, .int zh, .ref mR, .int zr, .ref x1, .ref x2, .ref x3, .int zc, .ref mH, .int zy, .int za, .int zb, .int zs, .int zq, .int (-1), .int 0, .ref mY, .int zn, .ref mE, .int zm, .int zl, .ref mW, .int zk, .ref mO, .int zd, .ref y1, .ref y2, .ref y3, .ref y4, .ref mZ])), (mL, .inl (cI, 512, .inl eL))] rfl
  clear hP hD hS hJ hP1 hD1
  have hP := hPn
  have hD := hDn
  have hS := hSn
  clear hPn hDn hSn
  refine lv_if_eq (tgt := 24) hx hb dX12_safe_14 (by decide) (fun c_2 => ?_) (fun c_2 => ?_)
  · have tc_2 : r_1.toInt = 0 := v_eq c_2
    refine lv_iconst (v := (-1)) hx hb dX12_safe_24 (by decide) ?_
    exact kl_i (v := (-1)) hQQ hx hb hr hlocks hS dX12_safe_25 ⟨0, (-1), ⟨hP, hD⟩⟩
  · have tc_2 : ¬ r_1.toInt = 0 := v_ne c_2
    refine lv_iload_n hx hb dX12_safe_17 rfl (lv_at hl 2 rfl) ?_
    refine kS_i (rest := []) hcf (m_X12_isCode l dC dI cI cS H.size b ) kc_X12_isCode gX12_safe_X12_isCode rfl rfl ⟨Nat.le_of_ble_eq_true rfl, Nat.le_of_ble_eq_true rfl⟩ kX_t hK hP hD hS hA [] [0, 1] rfl (by decide +kernel) rfl hl rfl (Nat.le_of_ble_eq_true rfl) dX12_safe_18 ⟨Nat.le_of_ble_eq_true rfl, Nat.le_of_ble_eq_true rfl⟩ (fun r_3 H locs hB hJ hSn => ?_)
    obtain ⟨⟨hP1, hD1⟩, hf3_0, hf3_1⟩ := hB
    obtain ⟨hPn, hDn⟩ := hJ _ hP1 hD1 [(oM, .inr (12, [.ref mT, .int zt, .ref mS, .ref mX, .int zp, .int zf, .ref mL, .ref mB, .ref mD, .ref m1, .ref m2, .int zh, .ref mR, .int zr, .ref x1, .ref x2, .ref x3, .int zc, .ref mH, .int zy, .int za, .int zb, .int zs, .int zq, .int (-1), .int 0, .ref mY, .int zn, .ref mE, .int zm, .int zl, .ref mW, .int zk, .ref mO, .int zd, .ref y1, .ref y2, .ref y3, .ref y4, .ref mZ])), (mL, .inl (cI, 512, .inl eL))] rfl
    clear hP hD hS hJ hP1 hD1
    have hP := hPn
    have hD := hDn
    have hS := hSn
    clear hPn hDn hSn
    refine lv_if_ne (tgt := 26) hx hb dX12_safe_21 (by decide) (fun c_4 => ?_) (fun c_4 => ?_)
    · have tc_4 : ¬ r_3.toInt = 0 := v_ne c_4
      refine lv_iload_n hx hb dX12_safe_26 rfl (lv_at hl 1 rfl) ?_
      refine lv_iload_n hx hb dX12_safe_27 rfl (lv_at hl 2 rfl) ?_
      refine lv_icmp_ne (tgt := 33) hx hb dX12_safe_28 (by decide) (fun c_5 => ?_) (fun c_5 => ?_)
      · have tc_5 : ¬ a.toInt = b.toInt := v_ne c_5
        refine lv_iconst (v := 0) hx hb dX12_safe_33 (by decide) ?_
        refine lv_istore_n (lv' := [(3, .int 0), (0, .ref oM), (1, .int a), (2, .int b)]) hx hb dX12_safe_34 rfl hl (by decide) rfl (fun ls hl => ?_)
        have LOOP_35 : ∀ (k_35 : Nat) (v : Int32) (H : Heap) (locs : List Loc) (ls : Array Slot), MSd (256 - v.toInt : Int) k_35 → (0 ≤ v.toInt ∧ v.toInt ≤ 256) → va_P (dC, dI) vwCl [(oM, .inr (12, [.ref mT, .int zt, .ref mS, .ref mX, .int zp, .int zf, .ref mL, .ref mB, .ref mD, .ref m1, .ref m2, .int zh, .ref mR, .int zr, .ref x1, .ref x2, .ref x3, .int zc, .ref mH, .int zy, .int za, .int zb, .int zs, .int zq, .int (-1), .int 0, .ref mY, .int zn, .ref mE, .int zm, .int zl, .ref mW, .int zk, .ref mO, .int zd, .ref y1, .ref y2, .ref y3, .ref y4, .ref mZ])), (mL, .inl (cI, 512, .inl eL))] H → va_D A [(oM, .inr (12, [.ref mT, .int zt, .ref mS, .ref mX, .int zp, .int zf, .ref mL, .ref mB, .ref mD, .ref m1, .ref m2, .int zh, .ref mR, .int zr, .ref x1, .ref x2, .ref x3, .int zc, .ref mH, .int zy, .int za, .int zb, .int zs, .int zq, .int (-1), .int 0, .ref mY, .int zn, .ref mE, .int zm, .int zl, .ref mW, .int zk, .ref mO, .int zd, .ref y1, .ref y2, .ref y3, .ref y4, .ref mZ])), (mL, .inl (cI, 512, .inl eL))] → va_S A s.heap H locs → lv_has ls 5 [(3, .int v), (0, .ref oM), (1, .int a), (2, .int b)] → W p l e (headSpec wsX12_safe ({ frames := 1, cells := 0, slots := 0, locals := 22 } : Room)).room s m ([.ref oM, .int a, .int b] : List Value).toArray below meth c H locs 0 0 (MQ below QQ ([.ref oM, .int a, .int b] : List Value).toArray s 0 0 A) (F0 m 35 ls []) := by
          clear hP hD hS hl
          try (clear hzs)
          intro k_35
          induction k_35 with
          | zero =>
            intro v H locs ls hm_35 g_v hP hD hS hl
            exact ms_0 hm_35
          | succ k_35 ih_35 =>
            intro v H locs ls hm_35 g_v hP hD hS hl
            refine lv_iload_n hx hb dX12_safe_35 rfl (lv_at hl 0 rfl) ?_
            refine lv_sipush (v := 256) hx hb dX12_safe_36 (by decide) ?_
            refine lv_icmp_ge (tgt := 136) hx hb dX12_safe_39 (by decide) (fun c_6 => ?_) (fun c_6 => ?_)
            · have tc_6 : 256 ≤ v.toInt := v_le c_6
              refine lv_iconst (v := 1) hx hb dX12_safe_136 (by decide) ?_
              exact kl_i (v := 1) hQQ hx hb hr hlocks hS dX12_safe_137 ⟨0, (-1), ⟨hP, hD⟩⟩
            · have tc_6 : v.toInt < 256 := v_nle c_6
              refine lv_aload_n hx hb dX12_safe_42 rfl (lv_at hl 1 rfl) ?_
              refine lv_iload_n hx hb dX12_safe_43 rfl (lv_at hl 2 rfl) ?_
              refine lv_iload_n hx hb dX12_safe_44 rfl (lv_at hl 0 rfl) ?_
              refine kV_i (rest := []) (q0 := 0) (ci := 12) hcf (m_X12_canCome l dC dI cI cS H.size oM mT mS mX mL mB mD m1 m2 mR x1 x2 x3 mH mY mE mW mO y1 y2 y3 y4 mZ zt zp zf zh zr zc zy za zb zs zq (-1) 0 zn zm zl zk zd eL a v (g_zt) (g_zp) (g_zf) (g_zh) (g_zr) (g_zc) (g_zy) (g_za) (g_zb) (g_zs) (g_zq) (g_zn) (g_zm) (g_zk) (g_eL) (by omega) (by omega)) kc_X12_canCome gX12_safe_X12_canCome rfl rfl rfl ⟨Nat.le_of_ble_eq_true rfl, Nat.le_of_ble_eq_true rfl⟩ kX_t hK hP hD hS hA [0, 1] [] rfl (by decide +kernel) rfl rfl rfl hl rfl (Nat.le_of_ble_eq_true rfl) dX12_safe_45 ⟨Nat.le_of_ble_eq_true rfl, Nat.le_of_ble_eq_true rfl⟩ (fun r_7 H locs hB hJ hSn => ?_)
              obtain ⟨⟨hP1, hD1⟩, hf7_0⟩ := hB
              obtain ⟨hPn, hDn⟩ := hJ _ hP1 hD1 [(oM, .inr (12, [.ref mT, .int zt, .ref mS, .ref mX, .int zp, .int zf, .ref mL, .ref mB, .ref mD, .ref m1, .ref m2, .int zh, .ref mR, .int zr, .ref x1, .ref x2, .ref x3, .int zc, .ref mH, .int zy, .int za, .int zb, .int zs, .int zq, .int (-1), .int 0, .ref mY, .int zn, .ref mE, .int zm, .int zl, .ref mW, .int zk, .ref mO, .int zd, .ref y1, .ref y2, .ref y3, .ref y4, .ref mZ])), (mL, .inl (cI, 512, .inl eL))] rfl
              clear hP hD hS hJ hP1 hD1
              have hP := hPn
              have hD := hDn
              have hS := hSn
              clear hPn hDn hSn
              refine lv_if_ne (tgt := 54) hx hb dX12_safe_48 (by decide) (fun c_8 => ?_) (fun c_8 => ?_)
              · have tc_8 : ¬ r_7.toInt = 0 := v_ne c_8
                refine lv_iload_n hx hb dX12_safe_54 rfl (lv_at hl 3 rfl) ?_
                refine lv_iconst (v := 1) hx hb dX12_safe_55 (by decide) ?_
                refine lv_icmp_eq (tgt := 116) hx hb dX12_safe_56 (by decide) (fun c_9 => ?_) (fun c_9 => ?_)
                · have tc_9 : b.toInt = 1 := v_eq c_9
                  refine lv_iconst (v := 1) hx hb dX12_safe_116 (by decide) ?_
                  refine lv_goto (tgt := 121) hx hb dX12_safe_117 (by decide) ?_
                  refine lv_istore (lv' := [(4, .int 1), (3, .int v), (0, .ref oM), (1, .int a), (2, .int b)]) hx hb dX12_safe_121 hl (by decide) rfl (fun ls hl => ?_)
                  refine lv_iload hx hb dX12_safe_123 (lv_at hl 0 rfl) ?_
                  refine lv_if_ne (tgt := 130) hx hb dX12_safe_125 (by decide) (fun c_10 => ?_) (fun c_10 => absurd c_10 (by decide))
                  obtain ⟨x_11, ex_11⟩ : ∃ y : Int32, y = v + 1 := ⟨_, rfl⟩
                  have tx_11 : x_11.toInt = v.toInt + 1 := v_addR (l2 := 1) (h2 := 1) ex_11 g_v (by decide) (by decide) (by decide)
                  refine lv_iinc (v := x_11) (lv' := [(3, .int x_11), (4, .int 1), (0, .ref oM), (1, .int a), (2, .int b)]) hx hb dX12_safe_130 hl (k := 1) rfl (by rw [ex_11]; rfl) (by decide) rfl (fun ls hl => ?_)
                  refine lv_goto (tgt := 35) hx hb dX12_safe_133 (by decide) ?_
                  exact ih_35 x_11 _ _ _ (ms_lt hm_35 (by show ((256 - x_11.toInt : Int)) < 256 - v.toInt; omega) (by show (0 : Int) < 256 - v.toInt; omega)) (by show 0 ≤ x_11.toInt ∧ x_11.toInt ≤ 256; omega) hP hD hS (lv_sub hl [0, 2, 3, 4] rfl)
                · have tc_9 : ¬ b.toInt = 1 := v_ne c_9
                  refine lv_iload_n hx hb dX12_safe_59 rfl (lv_at hl 3 rfl) ?_
                  refine lv_if_eq (tgt := 68) hx hb dX12_safe_60 (by decide) (fun c_12 => ?_) (fun c_12 => ?_)
                  · have tc_12 : b.toInt = 0 := v_eq c_12
                    refine lv_iload_n hx hb dX12_safe_68 rfl (lv_at hl 0 rfl) ?_
                    refine lv_sipush (v := 128) hx hb dX12_safe_69 (by decide) ?_
                    refine lv_icmp_lt (tgt := 116) hx hb dX12_safe_72 (by decide) (fun c_13 => ?_) (fun c_13 => ?_)
                    · have tc_13 : v.toInt < 128 := v_lt c_13
                      refine lv_iconst (v := 1) hx hb dX12_safe_116 (by decide) ?_
                      refine lv_goto (tgt := 121) hx hb dX12_safe_117 (by decide) ?_
                      refine lv_istore (lv' := [(4, .int 1), (3, .int v), (0, .ref oM), (1, .int a), (2, .int b)]) hx hb dX12_safe_121 hl (by decide) rfl (fun ls hl => ?_)
                      refine lv_iload hx hb dX12_safe_123 (lv_at hl 0 rfl) ?_
                      refine lv_if_ne (tgt := 130) hx hb dX12_safe_125 (by decide) (fun c_14 => ?_) (fun c_14 => absurd c_14 (by decide))
                      obtain ⟨x_15, ex_15⟩ : ∃ y : Int32, y = v + 1 := ⟨_, rfl⟩
                      have tx_15 : x_15.toInt = v.toInt + 1 := v_addR (l2 := 1) (h2 := 1) ex_15 g_v (by decide) (by decide) (by decide)
                      refine lv_iinc (v := x_15) (lv' := [(3, .int x_15), (4, .int 1), (0, .ref oM), (1, .int a), (2, .int b)]) hx hb dX12_safe_130 hl (k := 1) rfl (by rw [ex_15]; rfl) (by decide) rfl (fun ls hl => ?_)
                      refine lv_goto (tgt := 35) hx hb dX12_safe_133 (by decide) ?_
                      exact ih_35 x_15 _ _ _ (ms_lt hm_35 (by show ((256 - x_15.toInt : Int)) < 256 - v.toInt; omega) (by show (0 : Int) < 256 - v.toInt; omega)) (by show 0 ≤ x_15.toInt ∧ x_15.toInt ≤ 256; omega) hP hD hS (lv_sub hl [0, 2, 3, 4] rfl)
                    · have tc_13 : 128 ≤ v.toInt := v_nlt c_13
                      refine lv_iload_n hx hb dX12_safe_75 rfl (lv_at hl 3 rfl) ?_
                      refine lv_iconst (v := 3) hx hb dX12_safe_76 (by decide) ?_
                      refine lv_icmp_ne (tgt := 93) hx hb dX12_safe_77 (by decide) (fun c_16 => ?_) (fun c_16 => by exfalso; have tc_16 : b.toInt = 3 := v_eq c_16; omega)
                      have tc_16 : ¬ b.toInt = 3 := v_ne c_16
                      refine lv_iload_n hx hb dX12_safe_93 rfl (lv_at hl 3 rfl) ?_
                      refine lv_iconst (v := 3) hx hb dX12_safe_94 (by decide) ?_
                      refine lv_icmp_le (tgt := 120) hx hb dX12_safe_95 (by decide) (fun c_17 => ?_) (fun c_17 => by exfalso; have tc_17 : 3 < b.toInt := v_nle c_17; omega)
                      have tc_17 : b.toInt ≤ 3 := v_le c_17
                      refine lv_iconst (v := 0) hx hb dX12_safe_120 (by decide) ?_
                      refine lv_istore (lv' := [(4, .int 0), (3, .int v), (0, .ref oM), (1, .int a), (2, .int b)]) hx hb dX12_safe_121 hl (by decide) rfl (fun ls hl => ?_)
                      refine lv_iload hx hb dX12_safe_123 (lv_at hl 0 rfl) ?_
                      refine lv_if_ne (tgt := 130) hx hb dX12_safe_125 (by decide) (fun c_18 => absurd c_18 (by decide)) (fun c_18 => ?_)
                      refine lv_iconst (v := 0) hx hb dX12_safe_128 (by decide) ?_
                      exact kl_i (v := 0) hQQ hx hb hr hlocks hS dX12_safe_129 ⟨0, (-1), ⟨hP, hD⟩⟩
                  · have tc_12 : ¬ b.toInt = 0 := v_ne c_12
                    refine lv_iload_n hx hb dX12_safe_63 rfl (lv_at hl 3 rfl) ?_
                    refine lv_iconst (v := 2) hx hb dX12_safe_64 (by decide) ?_
                    refine lv_icmp_ne (tgt := 75) hx hb dX12_safe_65 (by decide) (fun c_19 => ?_) (fun c_19 => ?_)
                    · have tc_19 : ¬ b.toInt = 2 := v_ne c_19
                      refine lv_iload_n hx hb dX12_safe_75 rfl (lv_at hl 3 rfl) ?_
                      refine lv_iconst (v := 3) hx hb dX12_safe_76 (by decide) ?_
                      refine lv_icmp_ne (tgt := 93) hx hb dX12_safe_77 (by decide) (fun c_20 => ?_) (fun c_20 => ?_)
                      · have tc_20 : ¬ b.toInt = 3 := v_ne c_20
                        refine lv_iload_n hx hb dX12_safe_93 rfl (lv_at hl 3 rfl) ?_
                        refine lv_iconst (v := 3) hx hb dX12_safe_94 (by decide) ?_
                        refine lv_icmp_le (tgt := 120) hx hb dX12_safe_95 (by decide) (fun c_21 => ?_) (fun c_21 => ?_)
                        · have tc_21 : b.toInt ≤ 3 := v_le c_21
                          refine lv_iconst (v := 0) hx hb dX12_safe_120 (by decide) ?_
                          refine lv_istore (lv' := [(4, .int 0), (3, .int v), (0, .ref oM), (1, .int a), (2, .int b)]) hx hb dX12_safe_121 hl (by decide) rfl (fun ls hl => ?_)
                          refine lv_iload hx hb dX12_safe_123 (lv_at hl 0 rfl) ?_
                          refine lv_if_ne (tgt := 130) hx hb dX12_safe_125 (by decide) (fun c_22 => absurd c_22 (by decide)) (fun c_22 => ?_)
                          refine lv_iconst (v := 0) hx hb dX12_safe_128 (by decide) ?_
                          exact kl_i (v := 0) hQQ hx hb hr hlocks hS dX12_safe_129 ⟨0, (-1), ⟨hP, hD⟩⟩
                        · have tc_21 : 3 < b.toInt := v_nle c_21
                          refine lv_aload_n hx hb dX12_safe_98 rfl (lv_at hl 1 rfl) ?_
                          refine va_get (D := (dC, dI)) (ci := 12) (v := .ref mL) (C := RX12) (T := TX12) (N := 40) hx hb hts in_X12 hown hK hP 0 rfl rfl 6 (by decide) (hts (.fieldLink RX12 19 "TextMenderModel" "letterOf" "[I") (List.mem_of_getElem? (i := 3) rfl)) (fun _ h9 => h9) rfl dX12_safe_99 ?_
                          refine lv_sipush (v := 256) hx hb dX12_safe_102 (by decide) ?_
                          refine lv_iload_n hx hb dX12_safe_105 rfl (lv_at hl 3 rfl) ?_
                          refine lv_iconst (v := 4) hx hb dX12_safe_106 (by decide) ?_
                          refine lv_isub hx hb dX12_safe_107 ?_
                          refine lv_topi (fun x_23 ex_23 => ?_)
                          have tx_23 : x_23.toInt = b.toInt - 4 := v_sub ex_23 (by show -2147483648 ≤ b.toInt - 4; omega) (by show b.toInt - 4 < 2147483648; omega)
                          refine lv_imul hx hb dX12_safe_108 ?_
                          refine lv_topi (fun x_24 ex_24 => ?_)
                          have tx_24 : x_24.toInt = 256 * x_23.toInt := v_mul ex_24 (by show -2147483648 ≤ 256 * x_23.toInt; omega) (by show 256 * x_23.toInt < 2147483648; omega)
                          refine lv_iload_n hx hb dX12_safe_109 rfl (lv_at hl 0 rfl) ?_
                          refine lv_iadd hx hb dX12_safe_110 ?_
                          refine lv_topi (fun x_25 ex_25 => ?_)
                          have tx_25 : x_25.toInt = x_24.toInt + v.toInt := v_add ex_25 (by show -2147483648 ≤ x_24.toInt + v.toInt; omega) (by show x_24.toInt + v.toInt < 2147483648; omega)
                          refine va_iald hx hb hK hP 1 0 rfl rfl (v_in (by omega)) dX12_safe_111 ?_
                          refine lv_topi (fun x_26 ex_26 => ?_)
                          have tx_26 : -1 ≤ x_26.toInt ∧ x_26.toInt ≤ 65535 := rg_at g_eL ex_26
                          refine lv_iconst (v := (-1)) hx hb dX12_safe_112 (by decide) ?_
                          refine lv_icmp_eq (tgt := 120) hx hb dX12_safe_113 (by decide) (fun c_27 => ?_) (fun c_27 => ?_)
                          · have tc_27 : x_26.toInt = (-1) := v_eq c_27
                            refine lv_iconst (v := 0) hx hb dX12_safe_120 (by decide) ?_
                            refine lv_istore (lv' := [(4, .int 0), (3, .int v), (0, .ref oM), (1, .int a), (2, .int b)]) hx hb dX12_safe_121 hl (by decide) rfl (fun ls hl => ?_)
                            refine lv_iload hx hb dX12_safe_123 (lv_at hl 0 rfl) ?_
                            refine lv_if_ne (tgt := 130) hx hb dX12_safe_125 (by decide) (fun c_28 => absurd c_28 (by decide)) (fun c_28 => ?_)
                            refine lv_iconst (v := 0) hx hb dX12_safe_128 (by decide) ?_
                            exact kl_i (v := 0) hQQ hx hb hr hlocks hS dX12_safe_129 ⟨0, (-1), ⟨hP, hD⟩⟩
                          · have tc_27 : ¬ x_26.toInt = (-1) := v_ne c_27
                            refine lv_iconst (v := 1) hx hb dX12_safe_116 (by decide) ?_
                            refine lv_goto (tgt := 121) hx hb dX12_safe_117 (by decide) ?_
                            refine lv_istore (lv' := [(4, .int 1), (3, .int v), (0, .ref oM), (1, .int a), (2, .int b)]) hx hb dX12_safe_121 hl (by decide) rfl (fun ls hl => ?_)
                            refine lv_iload hx hb dX12_safe_123 (lv_at hl 0 rfl) ?_
                            refine lv_if_ne (tgt := 130) hx hb dX12_safe_125 (by decide) (fun c_29 => ?_) (fun c_29 => absurd c_29 (by decide))
                            obtain ⟨x_30, ex_30⟩ : ∃ y : Int32, y = v + 1 := ⟨_, rfl⟩
                            have tx_30 : x_30.toInt = v.toInt + 1 := v_addR (l2 := 1) (h2 := 1) ex_30 g_v (by decide) (by decide) (by decide)
                            refine lv_iinc (v := x_30) (lv' := [(3, .int x_30), (4, .int 1), (0, .ref oM), (1, .int a), (2, .int b)]) hx hb dX12_safe_130 hl (k := 1) rfl (by rw [ex_30]; rfl) (by decide) rfl (fun ls hl => ?_)
                            refine lv_goto (tgt := 35) hx hb dX12_safe_133 (by decide) ?_
                            exact ih_35 x_30 _ _ _ (ms_lt hm_35 (by show ((256 - x_30.toInt : Int)) < 256 - v.toInt; omega) (by show (0 : Int) < 256 - v.toInt; omega)) (by show 0 ≤ x_30.toInt ∧ x_30.toInt ≤ 256; omega) hP hD hS (lv_sub hl [0, 2, 3, 4] rfl)
                      · have tc_20 : b.toInt = 3 := v_eq c_20
                        refine lv_iload_n hx hb dX12_safe_80 rfl (lv_at hl 0 rfl) ?_
                        refine lv_sipush (v := 128) hx hb dX12_safe_81 (by decide) ?_
                        refine lv_icmp_ge (tgt := 93) hx hb dX12_safe_84 (by decide) (fun c_31 => ?_) (fun c_31 => ?_)
                        · have tc_31 : 128 ≤ v.toInt := v_le c_31
                          refine lv_iload_n hx hb dX12_safe_93 rfl (lv_at hl 3 rfl) ?_
                          refine lv_iconst (v := 3) hx hb dX12_safe_94 (by decide) ?_
                          refine lv_icmp_le (tgt := 120) hx hb dX12_safe_95 (by decide) (fun c_32 => ?_) (fun c_32 => by exfalso; have tc_32 : 3 < b.toInt := v_nle c_32; omega)
                          have tc_32 : b.toInt ≤ 3 := v_le c_32
                          refine lv_iconst (v := 0) hx hb dX12_safe_120 (by decide) ?_
                          refine lv_istore (lv' := [(4, .int 0), (3, .int v), (0, .ref oM), (1, .int a), (2, .int b)]) hx hb dX12_safe_121 hl (by decide) rfl (fun ls hl => ?_)
                          refine lv_iload hx hb dX12_safe_123 (lv_at hl 0 rfl) ?_
                          refine lv_if_ne (tgt := 130) hx hb dX12_safe_125 (by decide) (fun c_33 => absurd c_33 (by decide)) (fun c_33 => ?_)
                          refine lv_iconst (v := 0) hx hb dX12_safe_128 (by decide) ?_
                          exact kl_i (v := 0) hQQ hx hb hr hlocks hS dX12_safe_129 ⟨0, (-1), ⟨hP, hD⟩⟩
                        · have tc_31 : v.toInt < 128 := v_nle c_31
                          refine lv_iload_n hx hb dX12_safe_87 rfl (lv_at hl 0 rfl) ?_
                          refine lv_bipush (v := 38) hx hb dX12_safe_88 (by decide) ?_
                          refine lv_icmp_ne (tgt := 116) hx hb dX12_safe_90 (by decide) (fun c_34 => ?_) (fun c_34 => ?_)
                          · have tc_34 : ¬ v.toInt = 38 := v_ne c_34
                            refine lv_iconst (v := 1) hx hb dX12_safe_116 (by decide) ?_
                            refine lv_goto (tgt := 121) hx hb dX12_safe_117 (by decide) ?_
                            refine lv_istore (lv' := [(4, .int 1), (3, .int v), (0, .ref oM), (1, .int a), (2, .int b)]) hx hb dX12_safe_121 hl (by decide) rfl (fun ls hl => ?_)
                            refine lv_iload hx hb dX12_safe_123 (lv_at hl 0 rfl) ?_
                            refine lv_if_ne (tgt := 130) hx hb dX12_safe_125 (by decide) (fun c_35 => ?_) (fun c_35 => absurd c_35 (by decide))
                            obtain ⟨x_36, ex_36⟩ : ∃ y : Int32, y = v + 1 := ⟨_, rfl⟩
                            have tx_36 : x_36.toInt = v.toInt + 1 := v_addR (l2 := 1) (h2 := 1) ex_36 g_v (by decide) (by decide) (by decide)
                            refine lv_iinc (v := x_36) (lv' := [(3, .int x_36), (4, .int 1), (0, .ref oM), (1, .int a), (2, .int b)]) hx hb dX12_safe_130 hl (k := 1) rfl (by rw [ex_36]; rfl) (by decide) rfl (fun ls hl => ?_)
                            refine lv_goto (tgt := 35) hx hb dX12_safe_133 (by decide) ?_
                            exact ih_35 x_36 _ _ _ (ms_lt hm_35 (by show ((256 - x_36.toInt : Int)) < 256 - v.toInt; omega) (by show (0 : Int) < 256 - v.toInt; omega)) (by show 0 ≤ x_36.toInt ∧ x_36.toInt ≤ 256; omega) hP hD hS (lv_sub hl [0, 2, 3, 4] rfl)
                          · have tc_34 : v.toInt = 38 := v_eq c_34
                            refine lv_iload_n hx hb dX12_safe_93 rfl (lv_at hl 3 rfl) ?_
                            refine lv_iconst (v := 3) hx hb dX12_safe_94 (by decide) ?_
                            refine lv_icmp_le (tgt := 120) hx hb dX12_safe_95 (by decide) (fun c_37 => ?_) (fun c_37 => by exfalso; have tc_37 : 3 < b.toInt := v_nle c_37; omega)
                            have tc_37 : b.toInt ≤ 3 := v_le c_37
                            refine lv_iconst (v := 0) hx hb dX12_safe_120 (by decide) ?_
                            refine lv_istore (lv' := [(4, .int 0), (3, .int v), (0, .ref oM), (1, .int a), (2, .int b)]) hx hb dX12_safe_121 hl (by decide) rfl (fun ls hl => ?_)
                            refine lv_iload hx hb dX12_safe_123 (lv_at hl 0 rfl) ?_
                            refine lv_if_ne (tgt := 130) hx hb dX12_safe_125 (by decide) (fun c_38 => absurd c_38 (by decide)) (fun c_38 => ?_)
                            refine lv_iconst (v := 0) hx hb dX12_safe_128 (by decide) ?_
                            exact kl_i (v := 0) hQQ hx hb hr hlocks hS dX12_safe_129 ⟨0, (-1), ⟨hP, hD⟩⟩
                    · have tc_19 : b.toInt = 2 := v_eq c_19
                      refine lv_iload_n hx hb dX12_safe_68 rfl (lv_at hl 0 rfl) ?_
                      refine lv_sipush (v := 128) hx hb dX12_safe_69 (by decide) ?_
                      refine lv_icmp_lt (tgt := 116) hx hb dX12_safe_72 (by decide) (fun c_39 => ?_) (fun c_39 => ?_)
                      · have tc_39 : v.toInt < 128 := v_lt c_39
                        refine lv_iconst (v := 1) hx hb dX12_safe_116 (by decide) ?_
                        refine lv_goto (tgt := 121) hx hb dX12_safe_117 (by decide) ?_
                        refine lv_istore (lv' := [(4, .int 1), (3, .int v), (0, .ref oM), (1, .int a), (2, .int b)]) hx hb dX12_safe_121 hl (by decide) rfl (fun ls hl => ?_)
                        refine lv_iload hx hb dX12_safe_123 (lv_at hl 0 rfl) ?_
                        refine lv_if_ne (tgt := 130) hx hb dX12_safe_125 (by decide) (fun c_40 => ?_) (fun c_40 => absurd c_40 (by decide))
                        obtain ⟨x_41, ex_41⟩ : ∃ y : Int32, y = v + 1 := ⟨_, rfl⟩
                        have tx_41 : x_41.toInt = v.toInt + 1 := v_addR (l2 := 1) (h2 := 1) ex_41 g_v (by decide) (by decide) (by decide)
                        refine lv_iinc (v := x_41) (lv' := [(3, .int x_41), (4, .int 1), (0, .ref oM), (1, .int a), (2, .int b)]) hx hb dX12_safe_130 hl (k := 1) rfl (by rw [ex_41]; rfl) (by decide) rfl (fun ls hl => ?_)
                        refine lv_goto (tgt := 35) hx hb dX12_safe_133 (by decide) ?_
                        exact ih_35 x_41 _ _ _ (ms_lt hm_35 (by show ((256 - x_41.toInt : Int)) < 256 - v.toInt; omega) (by show (0 : Int) < 256 - v.toInt; omega)) (by show 0 ≤ x_41.toInt ∧ x_41.toInt ≤ 256; omega) hP hD hS (lv_sub hl [0, 2, 3, 4] rfl)
                      · have tc_39 : 128 ≤ v.toInt := v_nlt c_39
                        refine lv_iload_n hx hb dX12_safe_75 rfl (lv_at hl 3 rfl) ?_
                        refine lv_iconst (v := 3) hx hb dX12_safe_76 (by decide) ?_
                        refine lv_icmp_ne (tgt := 93) hx hb dX12_safe_77 (by decide) (fun c_42 => ?_) (fun c_42 => by exfalso; have tc_42 : b.toInt = 3 := v_eq c_42; omega)
                        have tc_42 : ¬ b.toInt = 3 := v_ne c_42
                        refine lv_iload_n hx hb dX12_safe_93 rfl (lv_at hl 3 rfl) ?_
                        refine lv_iconst (v := 3) hx hb dX12_safe_94 (by decide) ?_
                        refine lv_icmp_le (tgt := 120) hx hb dX12_safe_95 (by decide) (fun c_43 => ?_) (fun c_43 => by exfalso; have tc_43 : 3 < b.toInt := v_nle c_43; omega)
                        have tc_43 : b.toInt ≤ 3 := v_le c_43
                        refine lv_iconst (v := 0) hx hb dX12_safe_120 (by decide) ?_
                        refine lv_istore (lv' := [(4, .int 0), (3, .int v), (0, .ref oM), (1, .int a), (2, .int b)]) hx hb dX12_safe_121 hl (by decide) rfl (fun ls hl => ?_)
                        refine lv_iload hx hb dX12_safe_123 (lv_at hl 0 rfl) ?_
                        refine lv_if_ne (tgt := 130) hx hb dX12_safe_125 (by decide) (fun c_44 => absurd c_44 (by decide)) (fun c_44 => ?_)
                        refine lv_iconst (v := 0) hx hb dX12_safe_128 (by decide) ?_
                        exact kl_i (v := 0) hQQ hx hb hr hlocks hS dX12_safe_129 ⟨0, (-1), ⟨hP, hD⟩⟩
              · have tc_8 : r_7.toInt = 0 := v_eq c_8
                refine lv_goto (tgt := 130) hx hb dX12_safe_51 (by decide) ?_
                obtain ⟨x_45, ex_45⟩ : ∃ y : Int32, y = v + 1 := ⟨_, rfl⟩
                have tx_45 : x_45.toInt = v.toInt + 1 := v_addR (l2 := 1) (h2 := 1) ex_45 g_v (by decide) (by decide) (by decide)
                refine lv_iinc (v := x_45) (lv' := [(3, .int x_45), (0, .ref oM), (1, .int a), (2, .int b)]) hx hb dX12_safe_130 hl (k := 0) rfl (by rw [ex_45]; rfl) (by decide) rfl (fun ls hl => ?_)
                refine lv_goto (tgt := 35) hx hb dX12_safe_133 (by decide) ?_
                exact ih_35 x_45 _ _ _ (ms_lt hm_35 (by show ((256 - x_45.toInt : Int)) < 256 - v.toInt; omega) (by show (0 : Int) < 256 - v.toInt; omega)) (by show 0 ≤ x_45.toInt ∧ x_45.toInt ≤ 256; omega) hP hD hS (lv_sub hl [0, 1, 2, 3] rfl)
        exact LOOP_35 _ 0 _ _ _ (ms_s _) (by decide) hP hD hS (lv_sub hl [0, 1, 2, 3] rfl)
      · have tc_5 : a.toInt = b.toInt := v_eq c_5
        refine lv_iconst (v := 1) hx hb dX12_safe_31 (by decide) ?_
        exact kl_i (v := 1) hQQ hx hb hr hlocks hS dX12_safe_32 ⟨0, (-1), ⟨hP, hD⟩⟩
    · have tc_4 : r_3.toInt = 0 := v_eq c_4
      refine lv_iconst (v := (-1)) hx hb dX12_safe_24 (by decide) ?_
      exact kl_i (v := (-1)) hQQ hx hb hr hlocks hS dX12_safe_25 ⟨0, (-1), ⟨hP, hD⟩⟩

set_option maxHeartbeats 40000000 in
set_option maxRecDepth 100000 in
theorem m_X12_makes (l : Launch) (dC : Nat → ClassId) (dI : Nat → Nat → Nat) (cI cS : ClassId) (sz : Nat) (oM : Nat) (mT : Nat) (mS : Nat) (mX : Nat) (mL : Nat) (mB : Nat) (mD : Nat) (m1 : Nat) (m2 : Nat) (mR : Nat) (x1 : Nat) (x2 : Nat) (x3 : Nat) (mH : Nat) (mY : Nat) (mE : Nat) (mW : Nat) (mO : Nat) (y1 : Nat) (y2 : Nat) (y3 : Nat) (y4 : Nat) (mZ : Nat) (zt : Int32) (zp : Int32) (zf : Int32) (zh : Int32) (zr : Int32) (zc : Int32) (zy : Int32) (za : Int32) (zb : Int32) (zs : Int32) (zq : Int32) (zw : Int32) (ze : Int32) (zn : Int32) (zm : Int32) (zl : Int32) (zk : Int32) (zd : Int32) (eY : Nat → Int32) (eB : Nat → Int32) (eL : Nat → Int32) (eE : Nat → Int32) (eW : Nat → Int32) (eO : Nat → Int32) (eS : Nat → Int32) (eX : Nat → Int32) (e1 : Nat → Int32) (e2 : Nat → Int32) (co : Int32) (my : Int32) (g_zt : 0 ≤ zt.toInt ∧ zt.toInt ≤ 900) (g_zp : 0 ≤ zp.toInt ∧ zp.toInt ≤ 20) (g_zf : 0 ≤ zf.toInt ∧ zf.toInt ≤ 19) (g_zh : 0 ≤ zh.toInt ∧ zh.toInt ≤ 6) (g_zr : 0 ≤ zr.toInt ∧ zr.toInt ≤ 258) (g_zc : 0 ≤ zc.toInt ∧ zc.toInt ≤ 300) (g_zy : 0 ≤ zy.toInt ∧ zy.toInt ≤ 65536) (g_za : 0 ≤ za.toInt ∧ za.toInt ≤ 5) (g_zb : 0 ≤ zb.toInt ∧ zb.toInt ≤ 5) (g_zs : 0 ≤ zs.toInt ∧ zs.toInt ≤ 2000000) (g_zq : -1 ≤ zq.toInt ∧ zq.toInt ≤ 2000000) (g_zn : 0 ≤ zn.toInt ∧ zn.toInt ≤ 2600) (g_zm : 0 ≤ zm.toInt ∧ zm.toInt ≤ 2600) (g_zk : 0 ≤ zk.toInt ∧ zk.toInt ≤ 300) (g_eY : rg 0 255 eY) (g_eB : rg (-1) 255 eB) (g_eL : rg (-1) 65535 eL) (g_eE : rg 0 65535 eE) (g_eW : rg 0 65535 eW) (g_eO : rg 0 65535 eO) (g_eS : rg 0 300 eS) (g_eX : rg 0 65535 eX) (g_e1 : rg 0 5 e1) (g_e2 : rg 0 5 e2) (g_co : 0 ≤ co.toInt ∧ co.toInt ≤ 1000) (g_my : 0 ≤ my.toInt ∧ my.toInt ≤ 3) (hzh : 1 ≤ zh.toInt) : kMi l yX12_makes wsX12_makes ({ frames := 5, cells := 0, slots := 0, locals := 120 } : Room) [.ref oM, .int co, .int my] sz (dC, dI) vwCl [(cI, .int), (cS, .short)] [(oM, .inr (12, [.ref mT, .int zt, .ref mS, .ref mX, .int zp, .int zf, .ref mL, .ref mB, .ref mD, .ref m1, .ref m2, .int zh, .ref mR, .int zr, .ref x1, .ref x2, .ref x3, .int zc, .ref mH, .int zy, .int za, .int zb, .int zs, .int zq, .int zw, .int ze, .ref mY, .int zn, .ref mE, .int zm, .int zl, .ref mW, .int zk, .ref mO, .int zd, .ref y1, .ref y2, .ref y3, .ref y4, .ref mZ])), (mY, .inl (cI, 2600, .inl eY)), (mB, .inl (cS, 131072, .inl eB)), (mL, .inl (cI, 512, .inl eL)), (mE, .inl (cI, 2600, .inl eE)), (mW, .inl (cI, 300, .inl eW)), (mO, .inl (cI, 300, .inl eO)), (mS, .inl (cI, 21, .inl eS)), (mX, .inl (cI, 6300, .inl eX)), (m1, .inl (cI, 6, .inl e1)), (m2, .inl (cI, 6, .inl e2))] (fun _ => True) 0 0 (fun (A : Nat → Prop) (r : Int32) (hh9 : Heap) => ∃ (zn' : Int32) (eY' : Nat → Int32) (zd' : Int32) (zm' : Int32) (zl' : Int32) (eE' : Nat → Int32) (zk' : Int32) (eW' : Nat → Int32) (eO' : Nat → Int32), kPD (dC, dI) vwCl A [(oM, .inr (12, [.ref mT, .int zt, .ref mS, .ref mX, .int zp, .int zf, .ref mL, .ref mB, .ref mD, .ref m1, .ref m2, .int zh, .ref mR, .int zr, .ref x1, .ref x2, .ref x3, .int zc, .ref mH, .int zy, .int za, .int zb, .int zs, .int zq, .int zw, .int ze, .ref mY, .int zn', .ref mE, .int zm', .int zl', .ref mW, .int zk', .ref mO, .int zd', .ref y1, .ref y2, .ref y3, .ref y4, .ref mZ])), (mY, .inl (cI, 2600, .inl eY')), (mB, .inl (cS, 131072, .inl eB)), (mL, .inl (cI, 512, .inl eL)), (mE, .inl (cI, 2600, .inl eE')), (mW, .inl (cI, 300, .inl eW')), (mO, .inl (cI, 300, .inl eO')), (mS, .inl (cI, 21, .inl eS)), (mX, .inl (cI, 6300, .inl eX)), (m1, .inl (cI, 6, .inl e1)), (m2, .inl (cI, 6, .inl e2))] hh9 ∧ (0 ≤ zn'.toInt ∧ zn'.toInt ≤ 2600) ∧ (rg 0 255 eY') ∧ (0 ≤ zm'.toInt ∧ zm'.toInt ≤ 2600) ∧ (rg 0 65535 eE') ∧ (0 ≤ zk'.toInt ∧ zk'.toInt ≤ 300) ∧ (rg 0 65535 eW') ∧ (rg 0 65535 eO') ∧ (0 ≤ r.toInt ∧ r.toInt ≤ 1)) := by
  refine kMi_of (cc := cX12_makes) (maxL := 6) (ret := (some .boolean)) (lv := [(0, .ref oM), (1, .int co), (2, .int my)]) (by decide +kernel) rfl rfl (Nat.le_of_ble_eq_true rfl) ?_
  intro p e s m below meth c A QQ ls hx hb hr hts hml hown hlocks hA hQQ hK hX hP hD hS hl
  have hown : s.vm.findClass RX12 = some m.cls := hown
  have hcf := k_cf hx hb hml hown hts
  have in_X12 : ∀ w ∈ wsX120, w ∈ wsX12_makes := fun _ h => List.mem_cons_of_mem _ (List.mem_append_right _ (h))
  replace g_zt := hid g_zt
  replace g_zp := hid g_zp
  replace g_zf := hid g_zf
  replace g_zr := hid g_zr
  replace g_zc := hid g_zc
  replace g_zy := hid g_zy
  replace g_za := hid g_za
  replace g_zb := hid g_zb
  replace g_zs := hid g_zs
  replace g_zq := hid g_zq
  replace g_zn := hid g_zn
  replace g_zm := hid g_zm
  replace g_zk := hid g_zk
  replace g_co := hid g_co
  refine lv_aload_n hx hb dX12_makes_0 rfl (lv_at hl 0 rfl) ?_
  refine kV_v (rest := []) (q0 := 0) (ci := 12) hcf (m_X12_takeText l dC dI cI cS s.heap.size oM mT mS mX mL mB mD m1 m2 mR x1 x2 x3 mH mY mE mW mO y1 y2 y3 y4 mZ zt zp zf zh zr zc zy za zb zs zq zw ze zn zm zl zk zd eS eX eW (g_zt) (g_zp) (g_zf) (g_zh) (g_zr) (g_zc) (g_zy) (g_za) (g_zb) (g_zs) (g_zq) (g_zn) (g_zm) (g_zk) (g_eS) (g_eX) (g_eW)) kc_X12_takeText gX12_makes_X12_takeText rfl rfl rfl ⟨Nat.le_of_ble_eq_true rfl, Nat.le_of_ble_eq_true rfl⟩ kX_t hK hP hD hS hA [0, 7, 8, 5] [1, 2, 3, 4, 6, 9, 10] rfl (by decide +kernel) rfl rfl rfl hl rfl (Nat.le_of_ble_eq_true rfl) dX12_makes_1 ⟨Nat.le_of_ble_eq_true rfl, Nat.le_of_ble_eq_true rfl⟩ (fun H locs hB hJ hSn => ?_)
  obtain ⟨zk_1, eW_1, ⟨hP1, hD1⟩, hf1_0, hf1_1⟩ := hB
  obtain ⟨hPn, hDn⟩ := hJ _ hP1 hD1 [(mY, .inl (cI, 2600, .inl eY)), (mB, .inl (cS, 131072, .inl eB)), (mL, .inl (cI, 512, .inl eL)), (mE, .inl (cI, 2600, .inl eE)), (mO, .inl (cI, 300, .inl eO)), (m1, .inl (cI, 6, .inl e1)), (m2, .inl (cI, 6, .inl e2)), (oM, .inr (12, [.ref mT, .int zt, .ref mS, .ref mX, .int zp, .int zf, .ref mL, .ref mB, .ref mD, .ref m1, .ref m2, .int zh, .ref mR, .int zr, .ref x1, .ref x2, .ref x3, .int zc, .ref mH, .int zy, .int za, .int zb, .int zs, .int zq, .int zw, .int ze, .ref mY, .int zn, .ref mE, .int zm, .int zl, .ref mW, .int zk_1, .ref mO, .int zd, .ref y1, .ref y2, .ref y3, .ref y4, .ref mZ])), (mS, .inl (cI, 21, .inl eS)), (mX, .inl (cI, 6300, .inl eX)), (mW, .inl (cI, 300, .inl eW_1))] rfl
  clear hP hD hS hJ hP1 hD1
  have hP := hPn
  have hD := hDn
  have hS := hSn
  clear hPn hDn hSn
  refine lv_iload_n hx hb dX12_makes_4 rfl (lv_at hl 1 rfl) ?_
  refine lv_istore_n (lv' := [(3, .int co), (0, .ref oM), (1, .int co), (2, .int my)]) hx hb dX12_makes_5 rfl hl (by decide) rfl (fun ls hl => ?_)
  refine lv_iconst (v := 0) hx hb dX12_makes_6 (by decide) ?_
  refine lv_istore (lv' := [(4, .int 0), (3, .int co), (0, .ref oM), (1, .int co), (2, .int my)]) hx hb dX12_makes_7 hl (by decide) rfl (fun ls hl => ?_)
  have LOOP_9 : ∀ (k_9 : Nat) (cc_ : Int32) (k : Int32) (zna : Int32) (zda : Int32) (zma : Int32) (zla : Int32) (zka : Int32) (eYa : Nat → Int32) (eEa : Nat → Int32) (eWa : Nat → Int32) (eOa : Nat → Int32) (H : Heap) (locs : List Loc) (ls : Array Slot), MSd (3 - k.toInt : Int) k_9 → (0 ≤ cc_.toInt ∧ cc_.toInt ≤ 1000) → (0 ≤ k.toInt ∧ k.toInt ≤ 3) → (0 ≤ zna.toInt ∧ zna.toInt ≤ 2600) → (0 ≤ zma.toInt ∧ zma.toInt ≤ 2600) → (0 ≤ zka.toInt ∧ zka.toInt ≤ 300) → (rg 0 255 eYa) → (rg 0 65535 eEa) → (rg 0 65535 eWa) → (rg 0 65535 eOa) → va_P (dC, dI) vwCl [(mY, .inl (cI, 2600, .inl eYa)), (mB, .inl (cS, 131072, .inl eB)), (mL, .inl (cI, 512, .inl eL)), (mE, .inl (cI, 2600, .inl eEa)), (mO, .inl (cI, 300, .inl eOa)), (m1, .inl (cI, 6, .inl e1)), (m2, .inl (cI, 6, .inl e2)), (oM, .inr (12, [.ref mT, .int zt, .ref mS, .ref mX, .int zp, .int zf, .ref mL, .ref mB, .ref mD, .ref m1, .ref m2, .int zh, .ref mR, .int zr, .ref x1, .ref x2, .ref x3, .int zc, .ref mH, .int zy, .int za, .int zb, .int zs, .int zq, .int zw, .int ze, .ref mY, .int zna, .ref mE, .int zma, .int zla, .ref mW, .int zka, .ref mO, .int zda, .ref y1, .ref y2, .ref y3, .ref y4, .ref mZ])), (mS, .inl (cI, 21, .inl eS)), (mX, .inl (cI, 6300, .inl eX)), (mW, .inl (cI, 300, .inl eWa))] H → va_D A [(mY, .inl (cI, 2600, .inl eYa)), (mB, .inl (cS, 131072, .inl eB)), (mL, .inl (cI, 512, .inl eL)), (mE, .inl (cI, 2600, .inl eEa)), (mO, .inl (cI, 300, .inl eOa)), (m1, .inl (cI, 6, .inl e1)), (m2, .inl (cI, 6, .inl e2)), (oM, .inr (12, [.ref mT, .int zt, .ref mS, .ref mX, .int zp, .int zf, .ref mL, .ref mB, .ref mD, .ref m1, .ref m2, .int zh, .ref mR, .int zr, .ref x1, .ref x2, .ref x3, .int zc, .ref mH, .int zy, .int za, .int zb, .int zs, .int zq, .int zw, .int ze, .ref mY, .int zna, .ref mE, .int zma, .int zla, .ref mW, .int zka, .ref mO, .int zda, .ref y1, .ref y2, .ref y3, .ref y4, .ref mZ])), (mS, .inl (cI, 21, .inl eS)), (mX, .inl (cI, 6300, .inl eX)), (mW, .inl (cI, 300, .inl eWa))] → va_S A s.heap H locs → lv_has ls 6 [(4, .int k), (3, .int cc_), (0, .ref oM), (1, .int co), (2, .int my)] → W p l e (headSpec wsX12_makes ({ frames := 5, cells := 0, slots := 0, locals := 120 } : Room)).room s m ([.ref oM, .int co, .int my] : List Value).toArray below meth c H locs 0 0 (MQ below QQ ([.ref oM, .int co, .int my] : List Value).toArray s 0 0 A) (F0 m 9 ls []) := by
    clear hP hD hS hl
    try (clear hf1_0 hf1_1 g_eY g_eE g_eW g_eO g_eS g_eX)
    intro k_9
    induction k_9 with
    | zero =>
      intro cc_ k zna zda zma zla zka eYa eEa eWa eOa H locs ls hm_9 g_cc_ g_k g_zna g_zma g_zka g_eYa g_eEa g_eWa g_eOa hP hD hS hl
      exact ms_0 hm_9
    | succ k_9 ih_9 =>
      intro cc_ k zna zda zma zla zka eYa eEa eWa eOa H locs ls hm_9 g_cc_ g_k g_zna g_zma g_zka g_eYa g_eEa g_eWa g_eOa hP hD hS hl
      refine lv_iload hx hb dX12_makes_9 (lv_at hl 0 rfl) ?_
      refine lv_iload_n hx hb dX12_makes_11 rfl (lv_at hl 4 rfl) ?_
      refine lv_icmp_ge (tgt := 59) hx hb dX12_makes_12 (by decide) (fun c_2 => ?_) (fun c_2 => ?_)
      · have tc_2 : my.toInt ≤ k.toInt := v_le c_2
        refine lv_iconst (v := 1) hx hb dX12_makes_59 (by decide) ?_
        exact kl_z (v := 1) hQQ hx hb hr hlocks hS dX12_makes_60 (rfl) ⟨zna, eYa, zda, zma, zla, eEa, zka, eWa, eOa, kPD_sub hP hD [7, 0, 1, 2, 3, 10, 4, 8, 9, 5, 6] (by decide +kernel) rfl, g_zna, g_eYa, g_zma, g_eEa, g_zka, g_eWa, g_eOa, by decide⟩
      · have tc_2 : k.toInt < my.toInt := v_nle c_2
        refine lv_iload_n hx hb dX12_makes_15 rfl (lv_at hl 1 rfl) ?_
        refine lv_aload_n hx hb dX12_makes_16 rfl (lv_at hl 2 rfl) ?_
        refine va_get (D := (dC, dI)) (ci := 12) (v := .int zh) (C := RX12) (T := TX12) (N := 40) hx hb hts in_X12 hown hK hP 7 rfl rfl 11 (by decide) (hts (.fieldLink RX12 161 "TextMenderModel" "harms" "I") (List.mem_of_getElem? (i := 1) rfl)) (fun _ h9 => h9) rfl dX12_makes_17 ?_
        refine lv_irem hx hb dX12_makes_20 (v_nz (by omega)) ?_
        refine lv_topi (fun x_3 ex_3 => ?_)
        have tx_3 : 0 ≤ x_3.toInt ∧ x_3.toInt < zh.toInt := v_remr ex_3 (by show 0 ≤ cc_.toInt; omega) (by show 1 ≤ zh.toInt; omega)
        refine lv_istore (lv' := [(5, .int x_3), (4, .int k), (3, .int cc_), (0, .ref oM), (1, .int co), (2, .int my)]) hx hb dX12_makes_21 hl (by decide) rfl (fun ls hl => ?_)
        refine lv_iload_n hx hb dX12_makes_23 rfl (lv_at hl 2 rfl) ?_
        refine lv_aload_n hx hb dX12_makes_24 rfl (lv_at hl 3 rfl) ?_
        refine va_get (D := (dC, dI)) (ci := 12) (v := .int zh) (C := RX12) (T := TX12) (N := 40) hx hb hts in_X12 hown hK hP 7 rfl rfl 11 (by decide) (hts (.fieldLink RX12 161 "TextMenderModel" "harms" "I") (List.mem_of_getElem? (i := 1) rfl)) (fun _ h9 => h9) rfl dX12_makes_25 ?_
        refine lv_idiv hx hb dX12_makes_28 (v_nz (by omega)) ?_
        refine lv_topi (fun x_4 ex_4 => ?_)
        have tx_4 : 0 ≤ x_4.toInt ∧ x_4.toInt ≤ cc_.toInt := v_divr ex_4 (by show 0 ≤ cc_.toInt; omega) (by show 1 ≤ zh.toInt; omega)
        refine lv_istore_n (lv' := [(3, .int x_4), (5, .int x_3), (4, .int k), (0, .ref oM), (1, .int co), (2, .int my)]) hx hb dX12_makes_29 rfl hl (by decide) rfl (fun ls hl => ?_)
        refine lv_aload_n hx hb dX12_makes_30 rfl (lv_at hl 3 rfl) ?_
        refine lv_aload_n hx hb dX12_makes_31 rfl (lv_at hl 3 rfl) ?_
        refine va_get (D := (dC, dI)) (ci := 12) (v := .ref m1) (C := RX12) (T := TX12) (N := 40) hx hb hts in_X12 hown hK hP 7 rfl rfl 9 (by decide) (hts (.fieldLink RX12 30 "TextMenderModel" "harmA" "[I") (List.mem_of_getElem? (i := 2) rfl)) (fun _ h9 => h9) rfl dX12_makes_32 ?_
        refine lv_iload hx hb dX12_makes_35 (lv_at hl 1 rfl) ?_
        refine va_iald hx hb hK hP 5 0 rfl rfl (v_in (by omega)) dX12_makes_37 ?_
        refine lv_topi (fun x_5 ex_5 => ?_)
        have tx_5 : 0 ≤ x_5.toInt ∧ x_5.toInt ≤ 5 := rg_at g_e1 ex_5
        refine lv_aload_n hx hb dX12_makes_38 rfl (lv_at hl 3 rfl) ?_
        refine va_get (D := (dC, dI)) (ci := 12) (v := .ref m2) (C := RX12) (T := TX12) (N := 40) hx hb hts in_X12 hown hK hP 7 rfl rfl 10 (by decide) (hts (.fieldLink RX12 33 "TextMenderModel" "harmB" "[I") (List.mem_of_getElem? (i := 3) rfl)) (fun _ h9 => h9) rfl dX12_makes_39 ?_
        refine lv_iload hx hb dX12_makes_42 (lv_at hl 1 rfl) ?_
        refine va_iald hx hb hK hP 6 0 rfl rfl (v_in (by omega)) dX12_makes_44 ?_
        refine lv_topi (fun x_6 ex_6 => ?_)
        have tx_6 : 0 ≤ x_6.toInt ∧ x_6.toInt ≤ 5 := rg_at g_e2 ex_6
        refine kV_i (rest := []) (q0 := 0) (ci := 12) hcf (m_X12_undoes l dC dI cI cS H.size oM mT mS mX mL mB mD m1 m2 mR x1 x2 x3 mH mY mE mW mO y1 y2 y3 y4 mZ zt zp zf zh zr zc zy za zb zs zq zw ze zna zma zla zka zda eYa eB eL eEa eWa eOa x_5 x_6 (g_zt) (g_zp) (g_zf) (g_zh) (g_zr) (g_zc) (g_zy) (g_za) (g_zb) (g_zs) (g_zq) (g_zna) (g_zma) (g_zka) (g_eYa) (g_eB) (g_eL) (g_eEa) (g_eWa) (g_eOa) (v_rr tx_5 (by decide) (by decide)) (v_rr tx_6 (by decide) (by decide))) kc_X12_undoes gX12_makes_X12_undoes rfl rfl rfl ⟨Nat.le_of_ble_eq_true rfl, Nat.le_of_ble_eq_true rfl⟩ kX_t hK hP hD hS hA [7, 0, 1, 2, 3, 10, 4] [5, 6, 8, 9] rfl (by decide +kernel) rfl rfl rfl hl rfl (Nat.le_of_ble_eq_true rfl) dX12_makes_45 ⟨Nat.le_of_ble_eq_true rfl, Nat.le_of_ble_eq_true rfl⟩ (fun r_7 H locs hB hJ hSn => ?_)
        obtain ⟨zn_7, eY_7, zd_7, zm_7, zl_7, eE_7, zk_7, eW_7, eO_7, ⟨hP1, hD1⟩, hf7_0, hf7_1, hf7_2, hf7_3, hf7_4, hf7_5, hf7_6, hf7_7⟩ := hB
        obtain ⟨hPn, hDn⟩ := hJ _ hP1 hD1 [(m1, .inl (cI, 6, .inl e1)), (m2, .inl (cI, 6, .inl e2)), (mS, .inl (cI, 21, .inl eS)), (mX, .inl (cI, 6300, .inl eX)), (oM, .inr (12, [.ref mT, .int zt, .ref mS, .ref mX, .int zp, .int zf, .ref mL, .ref mB, .ref mD, .ref m1, .ref m2, .int zh, .ref mR, .int zr, .ref x1, .ref x2, .ref x3, .int zc, .ref mH, .int zy, .int za, .int zb, .int zs, .int zq, .int zw, .int ze, .ref mY, .int zn_7, .ref mE, .int zm_7, .int zl_7, .ref mW, .int zk_7, .ref mO, .int zd_7, .ref y1, .ref y2, .ref y3, .ref y4, .ref mZ])), (mY, .inl (cI, 2600, .inl eY_7)), (mB, .inl (cS, 131072, .inl eB)), (mL, .inl (cI, 512, .inl eL)), (mE, .inl (cI, 2600, .inl eE_7)), (mW, .inl (cI, 300, .inl eW_7)), (mO, .inl (cI, 300, .inl eO_7))] rfl
        clear hP hD hS hJ hP1 hD1
        have hP := hPn
        have hD := hDn
        have hS := hSn
        clear hPn hDn hSn
        refine lv_if_ne (tgt := 53) hx hb dX12_makes_48 (by decide) (fun c_8 => ?_) (fun c_8 => ?_)
        · have tc_8 : ¬ r_7.toInt = 0 := v_ne c_8
          obtain ⟨x_9, ex_9⟩ : ∃ y : Int32, y = k + 1 := ⟨_, rfl⟩
          have tx_9 : x_9.toInt = k.toInt + 1 := v_addR (l2 := 1) (h2 := 1) ex_9 g_k (by decide) (by decide) (by decide)
          refine lv_iinc (v := x_9) (lv' := [(4, .int x_9), (3, .int x_4), (5, .int x_3), (0, .ref oM), (1, .int co), (2, .int my)]) hx hb dX12_makes_53 hl (k := 2) rfl (by rw [ex_9]; rfl) (by decide) rfl (fun ls hl => ?_)
          refine lv_goto (tgt := 9) hx hb dX12_makes_56 (by decide) ?_
          exact ih_9 x_4 x_9 zn_7 zd_7 zm_7 zl_7 zk_7 eY_7 eE_7 eW_7 eO_7 _ _ _ (ms_lt hm_9 (by show ((3 - x_9.toInt : Int)) < 3 - k.toInt; omega) (by show (0 : Int) < 3 - k.toInt; omega)) (by show 0 ≤ x_4.toInt ∧ x_4.toInt ≤ 1000; omega) (by show 0 ≤ x_9.toInt ∧ x_9.toInt ≤ 3; omega) (hf7_0) (hf7_2) (hf7_4) (hf7_1) (hf7_3) (hf7_5) (hf7_6) (hP.sub [5, 6, 7, 8, 10, 0, 1, 4, 2, 3, 9] rfl) (hD.sub [5, 6, 7, 8, 10, 0, 1, 4, 2, 3, 9] (by decide +kernel) rfl) hS (lv_sub hl [0, 1, 3, 4, 5] rfl)
        · have tc_8 : r_7.toInt = 0 := v_eq c_8
          refine lv_iconst (v := 0) hx hb dX12_makes_51 (by decide) ?_
          exact kl_z (v := 0) hQQ hx hb hr hlocks hS dX12_makes_52 (rfl) ⟨zn_7, eY_7, zd_7, zm_7, zl_7, eE_7, zk_7, eW_7, eO_7, kPD_sub hP hD [4, 5, 6, 7, 8, 9, 10, 2, 3, 0, 1] (by decide +kernel) rfl, hf7_0, hf7_1, hf7_2, hf7_3, hf7_4, hf7_5, hf7_6, by decide⟩
  exact LOOP_9 _ co 0 zn zd zm zl zk_1 eY eE eW_1 eO _ _ _ (ms_s _) (g_co) (by decide) (g_zn) (g_zm) (hf1_0) (g_eY) (g_eE) (hf1_1) (g_eO) hP hD hS (lv_sub hl [0, 1, 2, 3, 4] rfl)

set_option maxHeartbeats 40000000 in
set_option maxRecDepth 100000 in
theorem m_X12_power (l : Launch) (dC : Nat → ClassId) (dI : Nat → Nat → Nat) (cI cS : ClassId) (sz : Nat) (v : Int32) (n : Int32) (g_v : 1 ≤ v.toInt ∧ v.toInt ≤ 6) (g_n : 0 ≤ n.toInt ∧ n.toInt ≤ 3) : kMi l yX12_power wsX12_power ({ frames := 0, cells := 0, slots := 0, locals := 0 } : Room) [.int v, .int n] sz (dC, dI) vwCl [(cI, .int), (cS, .short)] [] (fun _ => True) 0 0 (fun (A : Nat → Prop) (r : Int32) (hh9 : Heap) => kPD (dC, dI) vwCl A [] hh9 ∧ (1 ≤ r.toInt ∧ r.toInt ≤ 216) ∧ ((n.toInt = 0 ∧ r.toInt = 1) ∨ (n.toInt = 1 ∧ 1 ≤ r.toInt ∧ r.toInt ≤ 6) ∨ (n.toInt = 2 ∧ 1 ≤ r.toInt ∧ r.toInt ≤ 36) ∨ (n.toInt = 3 ∧ 1 ≤ r.toInt ∧ r.toInt ≤ 216))) := by
  refine kMi_of (cc := cX12_power) (maxL := 4) (ret := (some .int)) (lv := [(0, .int v), (1, .int n)]) (by decide +kernel) rfl rfl (Nat.le_of_ble_eq_true rfl) ?_
  intro p e s m below meth c A QQ ls hx hb hr hts hml hown hlocks hA hQQ hK hX hP hD hS hl
  have hown : s.vm.findClass RX12 = some m.cls := hown
  have hcf := k_cf hx hb hml hown hts
  refine lv_iconst (v := 1) hx hb dX12_power_0 (by decide) ?_
  refine lv_istore_n (lv' := [(2, .int 1), (0, .int v), (1, .int n)]) hx hb dX12_power_1 rfl hl (by decide) rfl (fun ls hl => ?_)
  refine lv_iconst (v := 0) hx hb dX12_power_2 (by decide) ?_
  refine lv_istore_n (lv' := [(3, .int 0), (2, .int 1), (0, .int v), (1, .int n)]) hx hb dX12_power_3 rfl hl (by decide) rfl (fun ls hl => ?_)
  have LOOP_4 : ∀ (k_4 : Nat) (p_ : Int32) (k : Int32) (H : Heap) (locs : List Loc) (ls : Array Slot), MSd (3 - k.toInt : Int) k_4 → (1 ≤ p_.toInt ∧ p_.toInt ≤ 216) → (0 ≤ k.toInt ∧ k.toInt ≤ n.toInt) → ((k.toInt = 0 ∧ p_.toInt = 1) ∨ (k.toInt = 1 ∧ p_.toInt ≤ 6) ∨ (k.toInt = 2 ∧ p_.toInt ≤ 36) ∨ (k.toInt = 3 ∧ p_.toInt ≤ 216)) → va_P (dC, dI) vwCl [] H → va_D A [] → va_S A s.heap H locs → lv_has ls 4 [(3, .int k), (2, .int p_), (0, .int v), (1, .int n)] → W p l e (headSpec wsX12_power ({ frames := 0, cells := 0, slots := 0, locals := 0 } : Room)).room s m ([.int v, .int n] : List Value).toArray below meth c H locs 0 0 (MQ below QQ ([.int v, .int n] : List Value).toArray s 0 0 A) (F0 m 4 ls []) := by
    clear hP hD hS hl
    intro k_4
    induction k_4 with
    | zero =>
      intro p_ k H locs ls hm_4 g_p_ g_k hpk hP hD hS hl
      exact ms_0 hm_4
    | succ k_4 ih_4 =>
      intro p_ k H locs ls hm_4 g_p_ g_k hpk hP hD hS hl
      refine lv_iload_n hx hb dX12_power_4 rfl (lv_at hl 0 rfl) ?_
      refine lv_iload_n hx hb dX12_power_5 rfl (lv_at hl 3 rfl) ?_
      refine lv_icmp_ge (tgt := 19) hx hb dX12_power_6 (by decide) (fun c_1 => ?_) (fun c_1 => ?_)
      · have tc_1 : n.toInt ≤ k.toInt := v_le c_1
        refine lv_iload_n hx hb dX12_power_19 rfl (lv_at hl 1 rfl) ?_
        exact kl_i (v := p_) hQQ hx hb hr hlocks hS dX12_power_20 ⟨⟨hP, hD⟩, g_p_, by show (n.toInt = 0 ∧ p_.toInt = 1) ∨ (n.toInt = 1 ∧ 1 ≤ p_.toInt ∧ p_.toInt ≤ 6) ∨ (n.toInt = 2 ∧ 1 ≤ p_.toInt ∧ p_.toInt ≤ 36) ∨ (n.toInt = 3 ∧ 1 ≤ p_.toInt ∧ p_.toInt ≤ 216); omega⟩
      · have tc_1 : k.toInt < n.toInt := v_nle c_1
        refine lv_iload_n hx hb dX12_power_9 rfl (lv_at hl 1 rfl) ?_
        refine lv_iload_n hx hb dX12_power_10 rfl (lv_at hl 2 rfl) ?_
        refine lv_imul hx hb dX12_power_11 ?_
        refine lv_topi (fun x_2 ex_2 => ?_)
        have tm_x_2 := v_mulb ex_2 (by omega) (by omega) (by omega) (by omega)
        refine lv_istore_n (lv' := [(2, .int x_2), (3, .int k), (0, .int v), (1, .int n)]) hx hb dX12_power_12 rfl hl (by decide) rfl (fun ls hl => ?_)
        obtain ⟨x_3, ex_3⟩ : ∃ y : Int32, y = k + 1 := ⟨_, rfl⟩
        have tx_3 : x_3.toInt = k.toInt + 1 := v_add ex_3 (by show -2147483648 ≤ k.toInt + 1; omega) (by show k.toInt + 1 < 2147483648; omega)
        refine lv_iinc (v := x_3) (lv' := [(3, .int x_3), (2, .int x_2), (0, .int v), (1, .int n)]) hx hb dX12_power_13 hl (k := 1) rfl (by rw [ex_3]; rfl) (by decide) rfl (fun ls hl => ?_)
        refine lv_goto (tgt := 4) hx hb dX12_power_16 (by decide) ?_
        exact ih_4 x_2 x_3 _ _ _ (ms_lt hm_4 (by show ((3 - x_3.toInt : Int)) < 3 - k.toInt; omega) (by show (0 : Int) < 3 - k.toInt; omega)) (by show 1 ≤ x_2.toInt ∧ x_2.toInt ≤ 216; omega) (by show 0 ≤ x_3.toInt ∧ x_3.toInt ≤ n.toInt; omega) (by show (x_3.toInt = 0 ∧ x_2.toInt = 1) ∨ (x_3.toInt = 1 ∧ x_2.toInt ≤ 6) ∨ (x_3.toInt = 2 ∧ x_2.toInt ≤ 36) ∨ (x_3.toInt = 3 ∧ x_2.toInt ≤ 216); omega) hP hD hS (lv_sub hl [0, 1, 2, 3] rfl)
  exact LOOP_4 _ 1 0 _ _ _ (ms_s _) (by decide) (by show 0 ≤ (0 : Int) ∧ (0 : Int) ≤ n.toInt; omega) (by show (0 = 0 ∧ 1 = 1) ∨ (0 = 1 ∧ 1 ≤ 6) ∨ (0 = 2 ∧ 1 ≤ 36) ∨ (0 = 3 ∧ 1 ≤ 216); omega) hP hD hS (lv_sub hl [0, 1, 2, 3] rfl)

set_option maxHeartbeats 40000000 in
set_option maxRecDepth 100000 in
theorem m_X12_sortOf (l : Launch) (dC : Nat → ClassId) (dI : Nat → Nat → Nat) (cI cS : ClassId) (sz : Nat) (x : Int32)  : kMi l yX12_sortOf wsX12_sortOf ({ frames := 0, cells := 0, slots := 0, locals := 0 } : Room) [.int x] sz (dC, dI) vwCl [(cI, .int), (cS, .short)] [] (fun _ => True) 0 0 (fun (A : Nat → Prop) (r : Int32) (hh9 : Heap) => kPD (dC, dI) vwCl A [] hh9 ∧ (0 ≤ r.toInt ∧ r.toInt ≤ 7)) := by
  refine kMi_of (cc := cX12_sortOf) (maxL := 1) (ret := (some .int)) (lv := [(0, .int x)]) (by decide +kernel) rfl rfl (Nat.le_of_ble_eq_true rfl) ?_
  intro p e s m below meth c A QQ ls hx hb hr hts hml hown hlocks hA hQQ hK hX hP hD hS hl
  have hown : s.vm.findClass RX12 = some m.cls := hown
  have hcf := k_cf hx hb hml hown hts
  refine lv_iload_n hx hb dX12_sortOf_0 rfl (lv_at hl 0 rfl) ?_
  refine lv_bipush (v := 97) hx hb dX12_sortOf_1 (by decide) ?_
  refine lv_icmp_lt (tgt := 14) hx hb dX12_sortOf_3 (by decide) (fun c_1 => ?_) (fun c_1 => ?_)
  · have tc_1 : x.toInt < 97 := v_lt c_1
    refine lv_iload_n hx hb dX12_sortOf_14 rfl (lv_at hl 0 rfl) ?_
    refine lv_bipush (v := 65) hx hb dX12_sortOf_15 (by decide) ?_
    refine lv_icmp_lt (tgt := 28) hx hb dX12_sortOf_17 (by decide) (fun c_2 => ?_) (fun c_2 => ?_)
    · have tc_2 : x.toInt < 65 := v_lt c_2
      refine lv_iload_n hx hb dX12_sortOf_28 rfl (lv_at hl 0 rfl) ?_
      refine lv_bipush (v := 48) hx hb dX12_sortOf_29 (by decide) ?_
      refine lv_icmp_lt (tgt := 42) hx hb dX12_sortOf_31 (by decide) (fun c_3 => ?_) (fun c_3 => ?_)
      · have tc_3 : x.toInt < 48 := v_lt c_3
        refine lv_iload_n hx hb dX12_sortOf_42 rfl (lv_at hl 0 rfl) ?_
        refine lv_bipush (v := 32) hx hb dX12_sortOf_43 (by decide) ?_
        refine lv_icmp_ne (tgt := 50) hx hb dX12_sortOf_45 (by decide) (fun c_4 => ?_) (fun c_4 => ?_)
        · have tc_4 : ¬ x.toInt = 32 := v_ne c_4
          refine lv_iload_n hx hb dX12_sortOf_50 rfl (lv_at hl 0 rfl) ?_
          refine lv_bipush (v := 33) hx hb dX12_sortOf_51 (by decide) ?_
          refine lv_icmp_lt (tgt := 64) hx hb dX12_sortOf_53 (by decide) (fun c_5 => ?_) (fun c_5 => ?_)
          · have tc_5 : x.toInt < 33 := v_lt c_5
            refine lv_iload_n hx hb dX12_sortOf_64 rfl (lv_at hl 0 rfl) ?_
            refine lv_sipush (v := 192) hx hb dX12_sortOf_65 (by decide) ?_
            refine lv_icmp_lt (tgt := 95) hx hb dX12_sortOf_68 (by decide) (fun c_6 => ?_) (fun c_6 => by exfalso; have tc_6 : 192 ≤ x.toInt := v_nlt c_6; omega)
            have tc_6 : x.toInt < 192 := v_lt c_6
            refine lv_iload_n hx hb dX12_sortOf_95 rfl (lv_at hl 0 rfl) ?_
            refine lv_sipush (v := 880) hx hb dX12_sortOf_96 (by decide) ?_
            refine lv_icmp_lt (tgt := 114) hx hb dX12_sortOf_99 (by decide) (fun c_7 => ?_) (fun c_7 => by exfalso; have tc_7 : 880 ≤ x.toInt := v_nlt c_7; omega)
            have tc_7 : x.toInt < 880 := v_lt c_7
            refine lv_iconst (v := 0) hx hb dX12_sortOf_114 (by decide) ?_
            exact kl_i (v := 0) hQQ hx hb hr hlocks hS dX12_sortOf_115 ⟨⟨hP, hD⟩, by decide⟩
          · have tc_5 : 33 ≤ x.toInt := v_nlt c_5
            refine lv_iload_n hx hb dX12_sortOf_56 rfl (lv_at hl 0 rfl) ?_
            refine lv_bipush (v := 126) hx hb dX12_sortOf_57 (by decide) ?_
            refine lv_icmp_gt (tgt := 64) hx hb dX12_sortOf_59 (by decide) (fun c_8 => by exfalso; have tc_8 : 126 < x.toInt := v_lt c_8; omega) (fun c_8 => ?_)
            have tc_8 : x.toInt ≤ 126 := v_nlt c_8
            refine lv_iconst (v := 5) hx hb dX12_sortOf_62 (by decide) ?_
            exact kl_i (v := 5) hQQ hx hb hr hlocks hS dX12_sortOf_63 ⟨⟨hP, hD⟩, by decide⟩
        · have tc_4 : x.toInt = 32 := v_eq c_4
          refine lv_iconst (v := 4) hx hb dX12_sortOf_48 (by decide) ?_
          exact kl_i (v := 4) hQQ hx hb hr hlocks hS dX12_sortOf_49 ⟨⟨hP, hD⟩, by decide⟩
      · have tc_3 : 48 ≤ x.toInt := v_nlt c_3
        refine lv_iload_n hx hb dX12_sortOf_34 rfl (lv_at hl 0 rfl) ?_
        refine lv_bipush (v := 57) hx hb dX12_sortOf_35 (by decide) ?_
        refine lv_icmp_gt (tgt := 42) hx hb dX12_sortOf_37 (by decide) (fun c_9 => ?_) (fun c_9 => ?_)
        · have tc_9 : 57 < x.toInt := v_lt c_9
          refine lv_iload_n hx hb dX12_sortOf_42 rfl (lv_at hl 0 rfl) ?_
          refine lv_bipush (v := 32) hx hb dX12_sortOf_43 (by decide) ?_
          refine lv_icmp_ne (tgt := 50) hx hb dX12_sortOf_45 (by decide) (fun c_10 => ?_) (fun c_10 => by exfalso; have tc_10 : x.toInt = 32 := v_eq c_10; omega)
          have tc_10 : ¬ x.toInt = 32 := v_ne c_10
          refine lv_iload_n hx hb dX12_sortOf_50 rfl (lv_at hl 0 rfl) ?_
          refine lv_bipush (v := 33) hx hb dX12_sortOf_51 (by decide) ?_
          refine lv_icmp_lt (tgt := 64) hx hb dX12_sortOf_53 (by decide) (fun c_11 => by exfalso; have tc_11 : x.toInt < 33 := v_lt c_11; omega) (fun c_11 => ?_)
          have tc_11 : 33 ≤ x.toInt := v_nlt c_11
          refine lv_iload_n hx hb dX12_sortOf_56 rfl (lv_at hl 0 rfl) ?_
          refine lv_bipush (v := 126) hx hb dX12_sortOf_57 (by decide) ?_
          refine lv_icmp_gt (tgt := 64) hx hb dX12_sortOf_59 (by decide) (fun c_12 => by exfalso; have tc_12 : 126 < x.toInt := v_lt c_12; omega) (fun c_12 => ?_)
          have tc_12 : x.toInt ≤ 126 := v_nlt c_12
          refine lv_iconst (v := 5) hx hb dX12_sortOf_62 (by decide) ?_
          exact kl_i (v := 5) hQQ hx hb hr hlocks hS dX12_sortOf_63 ⟨⟨hP, hD⟩, by decide⟩
        · have tc_9 : x.toInt ≤ 57 := v_nlt c_9
          refine lv_iconst (v := 3) hx hb dX12_sortOf_40 (by decide) ?_
          exact kl_i (v := 3) hQQ hx hb hr hlocks hS dX12_sortOf_41 ⟨⟨hP, hD⟩, by decide⟩
    · have tc_2 : 65 ≤ x.toInt := v_nlt c_2
      refine lv_iload_n hx hb dX12_sortOf_20 rfl (lv_at hl 0 rfl) ?_
      refine lv_bipush (v := 90) hx hb dX12_sortOf_21 (by decide) ?_
      refine lv_icmp_gt (tgt := 28) hx hb dX12_sortOf_23 (by decide) (fun c_13 => ?_) (fun c_13 => ?_)
      · have tc_13 : 90 < x.toInt := v_lt c_13
        refine lv_iload_n hx hb dX12_sortOf_28 rfl (lv_at hl 0 rfl) ?_
        refine lv_bipush (v := 48) hx hb dX12_sortOf_29 (by decide) ?_
        refine lv_icmp_lt (tgt := 42) hx hb dX12_sortOf_31 (by decide) (fun c_14 => by exfalso; have tc_14 : x.toInt < 48 := v_lt c_14; omega) (fun c_14 => ?_)
        have tc_14 : 48 ≤ x.toInt := v_nlt c_14
        refine lv_iload_n hx hb dX12_sortOf_34 rfl (lv_at hl 0 rfl) ?_
        refine lv_bipush (v := 57) hx hb dX12_sortOf_35 (by decide) ?_
        refine lv_icmp_gt (tgt := 42) hx hb dX12_sortOf_37 (by decide) (fun c_15 => ?_) (fun c_15 => by exfalso; have tc_15 : x.toInt ≤ 57 := v_nlt c_15; omega)
        have tc_15 : 57 < x.toInt := v_lt c_15
        refine lv_iload_n hx hb dX12_sortOf_42 rfl (lv_at hl 0 rfl) ?_
        refine lv_bipush (v := 32) hx hb dX12_sortOf_43 (by decide) ?_
        refine lv_icmp_ne (tgt := 50) hx hb dX12_sortOf_45 (by decide) (fun c_16 => ?_) (fun c_16 => by exfalso; have tc_16 : x.toInt = 32 := v_eq c_16; omega)
        have tc_16 : ¬ x.toInt = 32 := v_ne c_16
        refine lv_iload_n hx hb dX12_sortOf_50 rfl (lv_at hl 0 rfl) ?_
        refine lv_bipush (v := 33) hx hb dX12_sortOf_51 (by decide) ?_
        refine lv_icmp_lt (tgt := 64) hx hb dX12_sortOf_53 (by decide) (fun c_17 => by exfalso; have tc_17 : x.toInt < 33 := v_lt c_17; omega) (fun c_17 => ?_)
        have tc_17 : 33 ≤ x.toInt := v_nlt c_17
        refine lv_iload_n hx hb dX12_sortOf_56 rfl (lv_at hl 0 rfl) ?_
        refine lv_bipush (v := 126) hx hb dX12_sortOf_57 (by decide) ?_
        refine lv_icmp_gt (tgt := 64) hx hb dX12_sortOf_59 (by decide) (fun c_18 => by exfalso; have tc_18 : 126 < x.toInt := v_lt c_18; omega) (fun c_18 => ?_)
        have tc_18 : x.toInt ≤ 126 := v_nlt c_18
        refine lv_iconst (v := 5) hx hb dX12_sortOf_62 (by decide) ?_
        exact kl_i (v := 5) hQQ hx hb hr hlocks hS dX12_sortOf_63 ⟨⟨hP, hD⟩, by decide⟩
      · have tc_13 : x.toInt ≤ 90 := v_nlt c_13
        refine lv_iconst (v := 2) hx hb dX12_sortOf_26 (by decide) ?_
        exact kl_i (v := 2) hQQ hx hb hr hlocks hS dX12_sortOf_27 ⟨⟨hP, hD⟩, by decide⟩
  · have tc_1 : 97 ≤ x.toInt := v_nlt c_1
    refine lv_iload_n hx hb dX12_sortOf_6 rfl (lv_at hl 0 rfl) ?_
    refine lv_bipush (v := 122) hx hb dX12_sortOf_7 (by decide) ?_
    refine lv_icmp_gt (tgt := 14) hx hb dX12_sortOf_9 (by decide) (fun c_19 => ?_) (fun c_19 => ?_)
    · have tc_19 : 122 < x.toInt := v_lt c_19
      refine lv_iload_n hx hb dX12_sortOf_14 rfl (lv_at hl 0 rfl) ?_
      refine lv_bipush (v := 65) hx hb dX12_sortOf_15 (by decide) ?_
      refine lv_icmp_lt (tgt := 28) hx hb dX12_sortOf_17 (by decide) (fun c_20 => by exfalso; have tc_20 : x.toInt < 65 := v_lt c_20; omega) (fun c_20 => ?_)
      have tc_20 : 65 ≤ x.toInt := v_nlt c_20
      refine lv_iload_n hx hb dX12_sortOf_20 rfl (lv_at hl 0 rfl) ?_
      refine lv_bipush (v := 90) hx hb dX12_sortOf_21 (by decide) ?_
      refine lv_icmp_gt (tgt := 28) hx hb dX12_sortOf_23 (by decide) (fun c_21 => ?_) (fun c_21 => by exfalso; have tc_21 : x.toInt ≤ 90 := v_nlt c_21; omega)
      have tc_21 : 90 < x.toInt := v_lt c_21
      refine lv_iload_n hx hb dX12_sortOf_28 rfl (lv_at hl 0 rfl) ?_
      refine lv_bipush (v := 48) hx hb dX12_sortOf_29 (by decide) ?_
      refine lv_icmp_lt (tgt := 42) hx hb dX12_sortOf_31 (by decide) (fun c_22 => by exfalso; have tc_22 : x.toInt < 48 := v_lt c_22; omega) (fun c_22 => ?_)
      have tc_22 : 48 ≤ x.toInt := v_nlt c_22
      refine lv_iload_n hx hb dX12_sortOf_34 rfl (lv_at hl 0 rfl) ?_
      refine lv_bipush (v := 57) hx hb dX12_sortOf_35 (by decide) ?_
      refine lv_icmp_gt (tgt := 42) hx hb dX12_sortOf_37 (by decide) (fun c_23 => ?_) (fun c_23 => by exfalso; have tc_23 : x.toInt ≤ 57 := v_nlt c_23; omega)
      have tc_23 : 57 < x.toInt := v_lt c_23
      refine lv_iload_n hx hb dX12_sortOf_42 rfl (lv_at hl 0 rfl) ?_
      refine lv_bipush (v := 32) hx hb dX12_sortOf_43 (by decide) ?_
      refine lv_icmp_ne (tgt := 50) hx hb dX12_sortOf_45 (by decide) (fun c_24 => ?_) (fun c_24 => by exfalso; have tc_24 : x.toInt = 32 := v_eq c_24; omega)
      have tc_24 : ¬ x.toInt = 32 := v_ne c_24
      refine lv_iload_n hx hb dX12_sortOf_50 rfl (lv_at hl 0 rfl) ?_
      refine lv_bipush (v := 33) hx hb dX12_sortOf_51 (by decide) ?_
      refine lv_icmp_lt (tgt := 64) hx hb dX12_sortOf_53 (by decide) (fun c_25 => by exfalso; have tc_25 : x.toInt < 33 := v_lt c_25; omega) (fun c_25 => ?_)
      have tc_25 : 33 ≤ x.toInt := v_nlt c_25
      refine lv_iload_n hx hb dX12_sortOf_56 rfl (lv_at hl 0 rfl) ?_
      refine lv_bipush (v := 126) hx hb dX12_sortOf_57 (by decide) ?_
      refine lv_icmp_gt (tgt := 64) hx hb dX12_sortOf_59 (by decide) (fun c_26 => ?_) (fun c_26 => ?_)
      · have tc_26 : 126 < x.toInt := v_lt c_26
        refine lv_iload_n hx hb dX12_sortOf_64 rfl (lv_at hl 0 rfl) ?_
        refine lv_sipush (v := 192) hx hb dX12_sortOf_65 (by decide) ?_
        refine lv_icmp_lt (tgt := 95) hx hb dX12_sortOf_68 (by decide) (fun c_27 => ?_) (fun c_27 => ?_)
        · have tc_27 : x.toInt < 192 := v_lt c_27
          refine lv_iload_n hx hb dX12_sortOf_95 rfl (lv_at hl 0 rfl) ?_
          refine lv_sipush (v := 880) hx hb dX12_sortOf_96 (by decide) ?_
          refine lv_icmp_lt (tgt := 114) hx hb dX12_sortOf_99 (by decide) (fun c_28 => ?_) (fun c_28 => by exfalso; have tc_28 : 880 ≤ x.toInt := v_nlt c_28; omega)
          have tc_28 : x.toInt < 880 := v_lt c_28
          refine lv_iconst (v := 0) hx hb dX12_sortOf_114 (by decide) ?_
          exact kl_i (v := 0) hQQ hx hb hr hlocks hS dX12_sortOf_115 ⟨⟨hP, hD⟩, by decide⟩
        · have tc_27 : 192 ≤ x.toInt := v_nlt c_27
          refine lv_iload_n hx hb dX12_sortOf_71 rfl (lv_at hl 0 rfl) ?_
          refine lv_sipush (v := 591) hx hb dX12_sortOf_72 (by decide) ?_
          refine lv_icmp_gt (tgt := 95) hx hb dX12_sortOf_75 (by decide) (fun c_29 => ?_) (fun c_29 => ?_)
          · have tc_29 : 591 < x.toInt := v_lt c_29
            refine lv_iload_n hx hb dX12_sortOf_95 rfl (lv_at hl 0 rfl) ?_
            refine lv_sipush (v := 880) hx hb dX12_sortOf_96 (by decide) ?_
            refine lv_icmp_lt (tgt := 114) hx hb dX12_sortOf_99 (by decide) (fun c_30 => ?_) (fun c_30 => ?_)
            · have tc_30 : x.toInt < 880 := v_lt c_30
              refine lv_iconst (v := 0) hx hb dX12_sortOf_114 (by decide) ?_
              exact kl_i (v := 0) hQQ hx hb hr hlocks hS dX12_sortOf_115 ⟨⟨hP, hD⟩, by decide⟩
            · have tc_30 : 880 ≤ x.toInt := v_nlt c_30
              refine lv_iload_n hx hb dX12_sortOf_102 rfl (lv_at hl 0 rfl) ?_
              refine lv_sipush (v := 1327) hx hb dX12_sortOf_103 (by decide) ?_
              refine lv_icmp_gt (tgt := 114) hx hb dX12_sortOf_106 (by decide) (fun c_31 => ?_) (fun c_31 => ?_)
              · have tc_31 : 1327 < x.toInt := v_lt c_31
                refine lv_iconst (v := 0) hx hb dX12_sortOf_114 (by decide) ?_
                exact kl_i (v := 0) hQQ hx hb hr hlocks hS dX12_sortOf_115 ⟨⟨hP, hD⟩, by decide⟩
              · have tc_31 : x.toInt ≤ 1327 := v_nlt c_31
                refine lv_bipush (v := 7) hx hb dX12_sortOf_109 (by decide) ?_
                refine lv_goto (tgt := 115) hx hb dX12_sortOf_111 (by decide) ?_
                exact kl_i (v := 7) hQQ hx hb hr hlocks hS dX12_sortOf_115 ⟨⟨hP, hD⟩, by decide⟩
          · have tc_29 : x.toInt ≤ 591 := v_nlt c_29
            refine lv_iload_n hx hb dX12_sortOf_78 rfl (lv_at hl 0 rfl) ?_
            refine lv_sipush (v := 215) hx hb dX12_sortOf_79 (by decide) ?_
            refine lv_icmp_eq (tgt := 95) hx hb dX12_sortOf_82 (by decide) (fun c_32 => ?_) (fun c_32 => ?_)
            · have tc_32 : x.toInt = 215 := v_eq c_32
              refine lv_iload_n hx hb dX12_sortOf_95 rfl (lv_at hl 0 rfl) ?_
              refine lv_sipush (v := 880) hx hb dX12_sortOf_96 (by decide) ?_
              refine lv_icmp_lt (tgt := 114) hx hb dX12_sortOf_99 (by decide) (fun c_33 => ?_) (fun c_33 => by exfalso; have tc_33 : 880 ≤ x.toInt := v_nlt c_33; omega)
              have tc_33 : x.toInt < 880 := v_lt c_33
              refine lv_iconst (v := 0) hx hb dX12_sortOf_114 (by decide) ?_
              exact kl_i (v := 0) hQQ hx hb hr hlocks hS dX12_sortOf_115 ⟨⟨hP, hD⟩, by decide⟩
            · have tc_32 : ¬ x.toInt = 215 := v_ne c_32
              refine lv_iload_n hx hb dX12_sortOf_85 rfl (lv_at hl 0 rfl) ?_
              refine lv_sipush (v := 247) hx hb dX12_sortOf_86 (by decide) ?_
              refine lv_icmp_eq (tgt := 95) hx hb dX12_sortOf_89 (by decide) (fun c_34 => ?_) (fun c_34 => ?_)
              · have tc_34 : x.toInt = 247 := v_eq c_34
                refine lv_iload_n hx hb dX12_sortOf_95 rfl (lv_at hl 0 rfl) ?_
                refine lv_sipush (v := 880) hx hb dX12_sortOf_96 (by decide) ?_
                refine lv_icmp_lt (tgt := 114) hx hb dX12_sortOf_99 (by decide) (fun c_35 => ?_) (fun c_35 => by exfalso; have tc_35 : 880 ≤ x.toInt := v_nlt c_35; omega)
                have tc_35 : x.toInt < 880 := v_lt c_35
                refine lv_iconst (v := 0) hx hb dX12_sortOf_114 (by decide) ?_
                exact kl_i (v := 0) hQQ hx hb hr hlocks hS dX12_sortOf_115 ⟨⟨hP, hD⟩, by decide⟩
              · have tc_34 : ¬ x.toInt = 247 := v_ne c_34
                refine lv_bipush (v := 6) hx hb dX12_sortOf_92 (by decide) ?_
                exact kl_i (v := 6) hQQ hx hb hr hlocks hS dX12_sortOf_94 ⟨⟨hP, hD⟩, by decide⟩
      · have tc_26 : x.toInt ≤ 126 := v_nlt c_26
        refine lv_iconst (v := 5) hx hb dX12_sortOf_62 (by decide) ?_
        exact kl_i (v := 5) hQQ hx hb hr hlocks hS dX12_sortOf_63 ⟨⟨hP, hD⟩, by decide⟩
    · have tc_19 : x.toInt ≤ 122 := v_nlt c_19
      refine lv_iconst (v := 1) hx hb dX12_sortOf_12 (by decide) ?_
      exact kl_i (v := 1) hQQ hx hb hr hlocks hS dX12_sortOf_13 ⟨⟨hP, hD⟩, by decide⟩

set_option maxHeartbeats 40000000 in
set_option maxRecDepth 100000 in
theorem m_X12_costOf (l : Launch) (dC : Nat → ClassId) (dI : Nat → Nat → Nat) (cI cS : ClassId) (sz : Nat) (oM : Nat) (mT : Nat) (mS : Nat) (mX : Nat) (mL : Nat) (mB : Nat) (mD : Nat) (m1 : Nat) (m2 : Nat) (mR : Nat) (x1 : Nat) (x2 : Nat) (x3 : Nat) (mH : Nat) (mY : Nat) (mE : Nat) (mW : Nat) (mO : Nat) (y1 : Nat) (y2 : Nat) (y3 : Nat) (y4 : Nat) (mZ : Nat) (zt : Int32) (zp : Int32) (zf : Int32) (zh : Int32) (zr : Int32) (zc : Int32) (zy : Int32) (za : Int32) (zb : Int32) (zs : Int32) (zq : Int32) (zw : Int32) (ze : Int32) (zn : Int32) (zm : Int32) (zl : Int32) (zk : Int32) (zd : Int32) (ec1 : Nat → Int32) (ec2 : Nat → Int32) (ec3 : Nat → Int32) (x : Int32) (y : Int32) (g_zt : 0 ≤ zt.toInt ∧ zt.toInt ≤ 900) (g_zp : 0 ≤ zp.toInt ∧ zp.toInt ≤ 20) (g_zf : 0 ≤ zf.toInt ∧ zf.toInt ≤ 19) (g_zh : 0 ≤ zh.toInt ∧ zh.toInt ≤ 6) (g_zr : 0 ≤ zr.toInt ∧ zr.toInt ≤ 258) (g_zc : 0 ≤ zc.toInt ∧ zc.toInt ≤ 300) (g_zy : 0 ≤ zy.toInt ∧ zy.toInt ≤ 65536) (g_za : 0 ≤ za.toInt ∧ za.toInt ≤ 5) (g_zb : 0 ≤ zb.toInt ∧ zb.toInt ≤ 5) (g_zs : 0 ≤ zs.toInt ∧ zs.toInt ≤ 2000000) (g_zq : -1 ≤ zq.toInt ∧ zq.toInt ≤ 2000000) (g_zn : 0 ≤ zn.toInt ∧ zn.toInt ≤ 2600) (g_zm : 0 ≤ zm.toInt ∧ zm.toInt ≤ 2600) (g_zk : 0 ≤ zk.toInt ∧ zk.toInt ≤ 300) : kMi l yX12_costOf wsX12_costOf ({ frames := 1, cells := 0, slots := 0, locals := 20 } : Room) [.ref oM, .int x, .int y] sz (dC, dI) vwCl [(cI, .int), (cS, .short)] [(oM, .inr (12, [.ref mT, .int zt, .ref mS, .ref mX, .int zp, .int zf, .ref mL, .ref mB, .ref mD, .ref m1, .ref m2, .int zh, .ref mR, .int zr, .ref x1, .ref x2, .ref x3, .int zc, .ref mH, .int zy, .int za, .int zb, .int zs, .int zq, .int zw, .int ze, .ref mY, .int zn, .ref mE, .int zm, .int zl, .ref mW, .int zk, .ref mO, .int zd, .ref y1, .ref y2, .ref y3, .ref y4, .ref mZ])), (x1, .inl (cI, 300, .inl ec1)), (x2, .inl (cI, 300, .inl ec2)), (x3, .inl (cI, 300, .inl ec3))] (fun _ => True) 0 0 (fun (A : Nat → Prop) (r : Int32) (hh9 : Heap) => kPD (dC, dI) vwCl A [(oM, .inr (12, [.ref mT, .int zt, .ref mS, .ref mX, .int zp, .int zf, .ref mL, .ref mB, .ref mD, .ref m1, .ref m2, .int zh, .ref mR, .int zr, .ref x1, .ref x2, .ref x3, .int zc, .ref mH, .int zy, .int za, .int zb, .int zs, .int zq, .int zw, .int ze, .ref mY, .int zn, .ref mE, .int zm, .int zl, .ref mW, .int zk, .ref mO, .int zd, .ref y1, .ref y2, .ref y3, .ref y4, .ref mZ])), (x1, .inl (cI, 300, .inl ec1)), (x2, .inl (cI, 300, .inl ec2)), (x3, .inl (cI, 300, .inl ec3))] hh9) := by
  refine kMi_of (cc := cX12_costOf) (maxL := 5) (ret := (some .int)) (lv := [(0, .ref oM), (1, .int x), (2, .int y)]) (by decide +kernel) rfl rfl (Nat.le_of_ble_eq_true rfl) ?_
  intro p e s m below meth c A QQ ls hx hb hr hts hml hown hlocks hA hQQ hK hX hP hD hS hl
  have hown : s.vm.findClass RX12 = some m.cls := hown
  have hcf := k_cf hx hb hml hown hts
  have in_X12 : ∀ w ∈ wsX120, w ∈ wsX12_costOf := fun _ h => List.mem_cons_of_mem _ (List.mem_append_right _ (h))
  replace g_zt := hid g_zt
  replace g_zp := hid g_zp
  replace g_zf := hid g_zf
  replace g_zh := hid g_zh
  replace g_zr := hid g_zr
  replace g_zy := hid g_zy
  replace g_za := hid g_za
  replace g_zb := hid g_zb
  replace g_zs := hid g_zs
  replace g_zq := hid g_zq
  replace g_zn := hid g_zn
  replace g_zm := hid g_zm
  replace g_zk := hid g_zk
  refine lv_iconst (v := 0) hx hb dX12_costOf_0 (by decide) ?_
  refine lv_istore_n (lv' := [(3, .int 0), (0, .ref oM), (1, .int x), (2, .int y)]) hx hb dX12_costOf_1 rfl hl (by decide) rfl (fun ls hl => ?_)
  have LOOP_2 : ∀ (k_2 : Nat) (k : Int32) (H : Heap) (locs : List Loc) (ls : Array Slot), MSd (300 - k.toInt : Int) k_2 → (0 ≤ k.toInt ∧ k.toInt ≤ 300) → va_P (dC, dI) vwCl [(oM, .inr (12, [.ref mT, .int zt, .ref mS, .ref mX, .int zp, .int zf, .ref mL, .ref mB, .ref mD, .ref m1, .ref m2, .int zh, .ref mR, .int zr, .ref x1, .ref x2, .ref x3, .int zc, .ref mH, .int zy, .int za, .int zb, .int zs, .int zq, .int zw, .int ze, .ref mY, .int zn, .ref mE, .int zm, .int zl, .ref mW, .int zk, .ref mO, .int zd, .ref y1, .ref y2, .ref y3, .ref y4, .ref mZ])), (x1, .inl (cI, 300, .inl ec1)), (x2, .inl (cI, 300, .inl ec2)), (x3, .inl (cI, 300, .inl ec3))] H → va_D A [(oM, .inr (12, [.ref mT, .int zt, .ref mS, .ref mX, .int zp, .int zf, .ref mL, .ref mB, .ref mD, .ref m1, .ref m2, .int zh, .ref mR, .int zr, .ref x1, .ref x2, .ref x3, .int zc, .ref mH, .int zy, .int za, .int zb, .int zs, .int zq, .int zw, .int ze, .ref mY, .int zn, .ref mE, .int zm, .int zl, .ref mW, .int zk, .ref mO, .int zd, .ref y1, .ref y2, .ref y3, .ref y4, .ref mZ])), (x1, .inl (cI, 300, .inl ec1)), (x2, .inl (cI, 300, .inl ec2)), (x3, .inl (cI, 300, .inl ec3))] → va_S A s.heap H locs → lv_has ls 5 [(3, .int k), (0, .ref oM), (1, .int x), (2, .int y)] → W p l e (headSpec wsX12_costOf ({ frames := 1, cells := 0, slots := 0, locals := 20 } : Room)).room s m ([.ref oM, .int x, .int y] : List Value).toArray below meth c H locs 0 0 (MQ below QQ ([.ref oM, .int x, .int y] : List Value).toArray s 0 0 A) (F0 m 2 ls []) := by
    clear hP hD hS hl
    intro k_2
    induction k_2 with
    | zero =>
      intro k H locs ls hm_2 g_k hP hD hS hl
      exact ms_0 hm_2
    | succ k_2 ih_2 =>
      intro k H locs ls hm_2 g_k hP hD hS hl
      refine lv_iload_n hx hb dX12_costOf_2 rfl (lv_at hl 0 rfl) ?_
      refine lv_aload_n hx hb dX12_costOf_3 rfl (lv_at hl 1 rfl) ?_
      refine va_get (D := (dC, dI)) (ci := 12) (v := .int zc) (C := RX12) (T := TX12) (N := 40) hx hb hts in_X12 hown hK hP 0 rfl rfl 17 (by decide) (hts (.fieldLink RX12 168 "TextMenderModel" "costs" "I") (List.mem_of_getElem? (i := 1) rfl)) (fun _ h9 => h9) rfl dX12_costOf_4 ?_
      refine lv_icmp_ge (tgt := 43) hx hb dX12_costOf_7 (by decide) (fun c_1 => ?_) (fun c_1 => ?_)
      · have tc_1 : zc.toInt ≤ k.toInt := v_le c_1
        refine lv_iload_n hx hb dX12_costOf_43 rfl (lv_at hl 2 rfl) ?_
        refine kS_i (rest := []) hcf (m_X12_sortOf l dC dI cI cS H.size x ) kc_X12_sortOf gX12_costOf_X12_sortOf rfl rfl ⟨Nat.le_of_ble_eq_true rfl, Nat.le_of_ble_eq_true rfl⟩ kX_t hK hP hD hS hA [] [0, 1, 2, 3] rfl (by decide +kernel) rfl hl rfl (Nat.le_of_ble_eq_true rfl) dX12_costOf_44 ⟨Nat.le_of_ble_eq_true rfl, Nat.le_of_ble_eq_true rfl⟩ (fun r_2 H locs hB hJ hSn => ?_)
        obtain ⟨⟨hP1, hD1⟩, hf2_0⟩ := hB
        obtain ⟨hPn, hDn⟩ := hJ _ hP1 hD1 [(oM, .inr (12, [.ref mT, .int zt, .ref mS, .ref mX, .int zp, .int zf, .ref mL, .ref mB, .ref mD, .ref m1, .ref m2, .int zh, .ref mR, .int zr, .ref x1, .ref x2, .ref x3, .int zc, .ref mH, .int zy, .int za, .int zb, .int zs, .int zq, .int zw, .int ze, .ref mY, .int zn, .ref mE, .int zm, .int zl, .ref mW, .int zk, .ref mO, .int zd, .ref y1, .ref y2, .ref y3, .ref y4, .ref mZ])), (x1, .inl (cI, 300, .inl ec1)), (x2, .inl (cI, 300, .inl ec2)), (x3, .inl (cI, 300, .inl ec3))] rfl
        clear hP hD hS hJ hP1 hD1
        have hP := hPn
        have hD := hDn
        have hS := hSn
        clear hPn hDn hSn
        refine lv_istore_n (lv' := [(3, .int r_2), (0, .ref oM), (1, .int x), (2, .int y)]) hx hb dX12_costOf_47 rfl hl (by decide) rfl (fun ls hl => ?_)
        refine lv_iload_n hx hb dX12_costOf_48 rfl (lv_at hl 3 rfl) ?_
        refine kS_i (rest := []) hcf (m_X12_sortOf l dC dI cI cS H.size y ) kc_X12_sortOf gX12_costOf_X12_sortOf rfl rfl ⟨Nat.le_of_ble_eq_true rfl, Nat.le_of_ble_eq_true rfl⟩ kX_t hK hP hD hS hA [] [0, 1, 2, 3] rfl (by decide +kernel) rfl hl rfl (Nat.le_of_ble_eq_true rfl) dX12_costOf_49 ⟨Nat.le_of_ble_eq_true rfl, Nat.le_of_ble_eq_true rfl⟩ (fun r_3 H locs hB hJ hSn => ?_)
        obtain ⟨⟨hP1, hD1⟩, hf3_0⟩ := hB
        obtain ⟨hPn, hDn⟩ := hJ _ hP1 hD1 [(oM, .inr (12, [.ref mT, .int zt, .ref mS, .ref mX, .int zp, .int zf, .ref mL, .ref mB, .ref mD, .ref m1, .ref m2, .int zh, .ref mR, .int zr, .ref x1, .ref x2, .ref x3, .int zc, .ref mH, .int zy, .int za, .int zb, .int zs, .int zq, .int zw, .int ze, .ref mY, .int zn, .ref mE, .int zm, .int zl, .ref mW, .int zk, .ref mO, .int zd, .ref y1, .ref y2, .ref y3, .ref y4, .ref mZ])), (x1, .inl (cI, 300, .inl ec1)), (x2, .inl (cI, 300, .inl ec2)), (x3, .inl (cI, 300, .inl ec3))] rfl
        clear hP hD hS hJ hP1 hD1
        have hP := hPn
        have hD := hDn
        have hS := hSn
        clear hPn hDn hSn
        refine lv_istore (lv' := [(4, .int r_3), (3, .int r_2), (0, .ref oM), (1, .int x), (2, .int y)]) hx hb dX12_costOf_52 hl (by decide) rfl (fun ls hl => ?_)
        refine lv_iload_n hx hb dX12_costOf_54 rfl (lv_at hl 1 rfl) ?_
        refine lv_iload hx hb dX12_costOf_55 (lv_at hl 0 rfl) ?_
        refine lv_icmp_ne (tgt := 64) hx hb dX12_costOf_57 (by decide) (fun c_4 => ?_) (fun c_4 => ?_)
        · have tc_4 : ¬ r_2.toInt = r_3.toInt := v_ne c_4
          refine lv_bipush (v := 9) hx hb dX12_costOf_64 (by decide) ?_
          refine lv_iload_n hx hb dX12_costOf_66 rfl (lv_at hl 1 rfl) ?_
          refine lv_if_ne (tgt := 75) hx hb dX12_costOf_67 (by decide) (fun c_5 => ?_) (fun c_5 => ?_)
          · have tc_5 : ¬ r_2.toInt = 0 := v_ne c_5
            refine lv_iconst (v := 0) hx hb dX12_costOf_75 (by decide) ?_
            refine lv_iadd hx hb dX12_costOf_76 ?_
            refine k_i (y := 9) (by decide) ?_
            refine lv_iload hx hb dX12_costOf_77 (lv_at hl 0 rfl) ?_
            refine lv_if_ne (tgt := 87) hx hb dX12_costOf_79 (by decide) (fun c_6 => ?_) (fun c_6 => ?_)
            · have tc_6 : ¬ r_3.toInt = 0 := v_ne c_6
              refine lv_iconst (v := 0) hx hb dX12_costOf_87 (by decide) ?_
              refine lv_iadd hx hb dX12_costOf_88 ?_
              refine k_i (y := 9) (by decide) ?_
              exact kl_i (v := 9) hQQ hx hb hr hlocks hS dX12_costOf_89 ⟨hP, hD⟩
            · have tc_6 : r_3.toInt = 0 := v_eq c_6
              refine lv_bipush (v := 30) hx hb dX12_costOf_82 (by decide) ?_
              refine lv_goto (tgt := 88) hx hb dX12_costOf_84 (by decide) ?_
              refine lv_iadd hx hb dX12_costOf_88 ?_
              refine k_i (y := 39) (by decide) ?_
              exact kl_i (v := 39) hQQ hx hb hr hlocks hS dX12_costOf_89 ⟨hP, hD⟩
          · have tc_5 : r_2.toInt = 0 := v_eq c_5
            refine lv_bipush (v := 30) hx hb dX12_costOf_70 (by decide) ?_
            refine lv_goto (tgt := 76) hx hb dX12_costOf_72 (by decide) ?_
            refine lv_iadd hx hb dX12_costOf_76 ?_
            refine k_i (y := 39) (by decide) ?_
            refine lv_iload hx hb dX12_costOf_77 (lv_at hl 0 rfl) ?_
            refine lv_if_ne (tgt := 87) hx hb dX12_costOf_79 (by decide) (fun c_7 => ?_) (fun c_7 => ?_)
            · have tc_7 : ¬ r_3.toInt = 0 := v_ne c_7
              refine lv_iconst (v := 0) hx hb dX12_costOf_87 (by decide) ?_
              refine lv_iadd hx hb dX12_costOf_88 ?_
              refine k_i (y := 39) (by decide) ?_
              exact kl_i (v := 39) hQQ hx hb hr hlocks hS dX12_costOf_89 ⟨hP, hD⟩
            · have tc_7 : r_3.toInt = 0 := v_eq c_7
              refine lv_bipush (v := 30) hx hb dX12_costOf_82 (by decide) ?_
              refine lv_goto (tgt := 88) hx hb dX12_costOf_84 (by decide) ?_
              refine lv_iadd hx hb dX12_costOf_88 ?_
              refine k_i (y := 69) (by decide) ?_
              exact kl_i (v := 69) hQQ hx hb hr hlocks hS dX12_costOf_89 ⟨hP, hD⟩
        · have tc_4 : r_2.toInt = r_3.toInt := v_eq c_4
          refine lv_iconst (v := 4) hx hb dX12_costOf_60 (by decide) ?_
          refine lv_goto (tgt := 66) hx hb dX12_costOf_61 (by decide) ?_
          refine lv_iload_n hx hb dX12_costOf_66 rfl (lv_at hl 1 rfl) ?_
          refine lv_if_ne (tgt := 75) hx hb dX12_costOf_67 (by decide) (fun c_8 => ?_) (fun c_8 => ?_)
          · have tc_8 : ¬ r_2.toInt = 0 := v_ne c_8
            refine lv_iconst (v := 0) hx hb dX12_costOf_75 (by decide) ?_
            refine lv_iadd hx hb dX12_costOf_76 ?_
            refine k_i (y := 4) (by decide) ?_
            refine lv_iload hx hb dX12_costOf_77 (lv_at hl 0 rfl) ?_
            refine lv_if_ne (tgt := 87) hx hb dX12_costOf_79 (by decide) (fun c_9 => ?_) (fun c_9 => ?_)
            · have tc_9 : ¬ r_3.toInt = 0 := v_ne c_9
              refine lv_iconst (v := 0) hx hb dX12_costOf_87 (by decide) ?_
              refine lv_iadd hx hb dX12_costOf_88 ?_
              refine k_i (y := 4) (by decide) ?_
              exact kl_i (v := 4) hQQ hx hb hr hlocks hS dX12_costOf_89 ⟨hP, hD⟩
            · have tc_9 : r_3.toInt = 0 := v_eq c_9
              refine lv_bipush (v := 30) hx hb dX12_costOf_82 (by decide) ?_
              refine lv_goto (tgt := 88) hx hb dX12_costOf_84 (by decide) ?_
              refine lv_iadd hx hb dX12_costOf_88 ?_
              refine k_i (y := 34) (by decide) ?_
              exact kl_i (v := 34) hQQ hx hb hr hlocks hS dX12_costOf_89 ⟨hP, hD⟩
          · have tc_8 : r_2.toInt = 0 := v_eq c_8
            refine lv_bipush (v := 30) hx hb dX12_costOf_70 (by decide) ?_
            refine lv_goto (tgt := 76) hx hb dX12_costOf_72 (by decide) ?_
            refine lv_iadd hx hb dX12_costOf_76 ?_
            refine k_i (y := 34) (by decide) ?_
            refine lv_iload hx hb dX12_costOf_77 (lv_at hl 0 rfl) ?_
            refine lv_if_ne (tgt := 87) hx hb dX12_costOf_79 (by decide) (fun c_10 => ?_) (fun c_10 => ?_)
            · have tc_10 : ¬ r_3.toInt = 0 := v_ne c_10
              refine lv_iconst (v := 0) hx hb dX12_costOf_87 (by decide) ?_
              refine lv_iadd hx hb dX12_costOf_88 ?_
              refine k_i (y := 34) (by decide) ?_
              exact kl_i (v := 34) hQQ hx hb hr hlocks hS dX12_costOf_89 ⟨hP, hD⟩
            · have tc_10 : r_3.toInt = 0 := v_eq c_10
              refine lv_bipush (v := 30) hx hb dX12_costOf_82 (by decide) ?_
              refine lv_goto (tgt := 88) hx hb dX12_costOf_84 (by decide) ?_
              refine lv_iadd hx hb dX12_costOf_88 ?_
              refine k_i (y := 64) (by decide) ?_
              exact kl_i (v := 64) hQQ hx hb hr hlocks hS dX12_costOf_89 ⟨hP, hD⟩
      · have tc_1 : k.toInt < zc.toInt := v_nle c_1
        refine lv_aload_n hx hb dX12_costOf_10 rfl (lv_at hl 1 rfl) ?_
        refine va_get (D := (dC, dI)) (ci := 12) (v := .ref x1) (C := RX12) (T := TX12) (N := 40) hx hb hts in_X12 hown hK hP 0 rfl rfl 14 (by decide) (hts (.fieldLink RX12 39 "TextMenderModel" "costX" "[I") (List.mem_of_getElem? (i := 2) rfl)) (fun _ h9 => h9) rfl dX12_costOf_11 ?_
        refine lv_iload_n hx hb dX12_costOf_14 rfl (lv_at hl 0 rfl) ?_
        refine va_iald hx hb hK hP 1 0 rfl rfl (v_in (by omega)) dX12_costOf_15 ?_
        refine lv_topi (fun x_11 ex_11 => ?_)
        refine lv_iload_n hx hb dX12_costOf_16 rfl (lv_at hl 2 rfl) ?_
        refine lv_icmp_ne (tgt := 37) hx hb dX12_costOf_17 (by decide) (fun c_12 => ?_) (fun c_12 => ?_)
        · have tc_12 : ¬ x_11.toInt = x.toInt := v_ne c_12
          have rw12_0 := v_rng x_11
          have rw12_1 := v_rng x
          obtain ⟨x_13, ex_13⟩ : ∃ y : Int32, y = k + 1 := ⟨_, rfl⟩
          have tx_13 : x_13.toInt = k.toInt + 1 := v_addR (l2 := 1) (h2 := 1) ex_13 g_k (by decide) (by decide) (by decide)
          refine lv_iinc (v := x_13) (lv' := [(3, .int x_13), (0, .ref oM), (1, .int x), (2, .int y)]) hx hb dX12_costOf_37 hl (k := 0) rfl (by rw [ex_13]; rfl) (by decide) rfl (fun ls hl => ?_)
          refine lv_goto (tgt := 2) hx hb dX12_costOf_40 (by decide) ?_
          exact ih_2 x_13 _ _ _ (ms_lt hm_2 (by show ((300 - x_13.toInt : Int)) < 300 - k.toInt; omega) (by show (0 : Int) < 300 - k.toInt; omega)) (by show 0 ≤ x_13.toInt ∧ x_13.toInt ≤ 300; omega) hP hD hS (lv_sub hl [0, 1, 2, 3] rfl)
        · have tc_12 : x_11.toInt = x.toInt := v_eq c_12
          have rw12_0 := v_rng x_11
          have rw12_1 := v_rng x
          refine lv_aload_n hx hb dX12_costOf_20 rfl (lv_at hl 1 rfl) ?_
          refine va_get (D := (dC, dI)) (ci := 12) (v := .ref x2) (C := RX12) (T := TX12) (N := 40) hx hb hts in_X12 hown hK hP 0 rfl rfl 15 (by decide) (hts (.fieldLink RX12 42 "TextMenderModel" "costY" "[I") (List.mem_of_getElem? (i := 3) rfl)) (fun _ h9 => h9) rfl dX12_costOf_21 ?_
          refine lv_iload_n hx hb dX12_costOf_24 rfl (lv_at hl 0 rfl) ?_
          refine va_iald hx hb hK hP 2 0 rfl rfl (v_in (by omega)) dX12_costOf_25 ?_
          refine lv_topi (fun x_14 ex_14 => ?_)
          refine lv_iload_n hx hb dX12_costOf_26 rfl (lv_at hl 3 rfl) ?_
          refine lv_icmp_ne (tgt := 37) hx hb dX12_costOf_27 (by decide) (fun c_15 => ?_) (fun c_15 => ?_)
          · have tc_15 : ¬ x_14.toInt = y.toInt := v_ne c_15
            have rw15_0 := v_rng x_14
            have rw15_1 := v_rng y
            obtain ⟨x_16, ex_16⟩ : ∃ y : Int32, y = k + 1 := ⟨_, rfl⟩
            have tx_16 : x_16.toInt = k.toInt + 1 := v_addR (l2 := 1) (h2 := 1) ex_16 g_k (by decide) (by decide) (by decide)
            refine lv_iinc (v := x_16) (lv' := [(3, .int x_16), (0, .ref oM), (1, .int x), (2, .int y)]) hx hb dX12_costOf_37 hl (k := 0) rfl (by rw [ex_16]; rfl) (by decide) rfl (fun ls hl => ?_)
            refine lv_goto (tgt := 2) hx hb dX12_costOf_40 (by decide) ?_
            exact ih_2 x_16 _ _ _ (ms_lt hm_2 (by show ((300 - x_16.toInt : Int)) < 300 - k.toInt; omega) (by show (0 : Int) < 300 - k.toInt; omega)) (by show 0 ≤ x_16.toInt ∧ x_16.toInt ≤ 300; omega) hP hD hS (lv_sub hl [0, 1, 2, 3] rfl)
          · have tc_15 : x_14.toInt = y.toInt := v_eq c_15
            have rw15_0 := v_rng x_14
            have rw15_1 := v_rng y
            refine lv_aload_n hx hb dX12_costOf_30 rfl (lv_at hl 1 rfl) ?_
            refine va_get (D := (dC, dI)) (ci := 12) (v := .ref x3) (C := RX12) (T := TX12) (N := 40) hx hb hts in_X12 hown hK hP 0 rfl rfl 16 (by decide) (hts (.fieldLink RX12 45 "TextMenderModel" "costV" "[I") (List.mem_of_getElem? (i := 4) rfl)) (fun _ h9 => h9) rfl dX12_costOf_31 ?_
            refine lv_iload_n hx hb dX12_costOf_34 rfl (lv_at hl 0 rfl) ?_
            refine va_iald hx hb hK hP 3 0 rfl rfl (v_in (by omega)) dX12_costOf_35 ?_
            refine lv_topi (fun x_17 ex_17 => ?_)
            exact kl_i (v := x_17) hQQ hx hb hr hlocks hS dX12_costOf_36 ⟨hP, hD⟩
  exact LOOP_2 _ 0 _ _ _ (ms_s _) (by decide) hP hD hS (lv_sub hl [0, 1, 2, 3] rfl)

set_option maxHeartbeats 40000000 in
set_option maxRecDepth 100000 in
theorem m_X12_costOf_ (l : Launch) (dC : Nat → ClassId) (dI : Nat → Nat → Nat) (cI cS : ClassId) (sz : Nat) (oM : Nat) (rw : Nat) (mT : Nat) (mS : Nat) (mX : Nat) (mL : Nat) (mB : Nat) (mD : Nat) (m1 : Nat) (m2 : Nat) (mR : Nat) (x1 : Nat) (x2 : Nat) (x3 : Nat) (mH : Nat) (mY : Nat) (mE : Nat) (mW : Nat) (mO : Nat) (y1 : Nat) (y2 : Nat) (y3 : Nat) (y4 : Nat) (mZ : Nat) (cw : Nat) (zt : Int32) (zp : Int32) (zf : Int32) (zh : Int32) (zr : Int32) (zc : Int32) (zy : Int32) (za : Int32) (zb : Int32) (zs : Int32) (zq : Int32) (zw : Int32) (ze : Int32) (zn : Int32) (zm : Int32) (zl : Int32) (zk : Int32) (zd : Int32) (ec1 : Nat → Int32) (ec2 : Nat → Int32) (ec3 : Nat → Int32) (fr : Nat → Int32) (fo : Int32) (to_ : Int32) (g_zt : 0 ≤ zt.toInt ∧ zt.toInt ≤ 900) (g_zp : 0 ≤ zp.toInt ∧ zp.toInt ≤ 20) (g_zf : 0 ≤ zf.toInt ∧ zf.toInt ≤ 19) (g_zh : 0 ≤ zh.toInt ∧ zh.toInt ≤ 6) (g_zr : 0 ≤ zr.toInt ∧ zr.toInt ≤ 258) (g_zc : 0 ≤ zc.toInt ∧ zc.toInt ≤ 300) (g_zy : 0 ≤ zy.toInt ∧ zy.toInt ≤ 65536) (g_za : 0 ≤ za.toInt ∧ za.toInt ≤ 5) (g_zb : 0 ≤ zb.toInt ∧ zb.toInt ≤ 5) (g_zs : 0 ≤ zs.toInt ∧ zs.toInt ≤ 2000000) (g_zq : -1 ≤ zq.toInt ∧ zq.toInt ≤ 2000000) (g_zn : 0 ≤ zn.toInt ∧ zn.toInt ≤ 2600) (g_zm : 0 ≤ zm.toInt ∧ zm.toInt ≤ 2600) (g_zk : 0 ≤ zk.toInt ∧ zk.toInt ≤ 300) (g_fo : 0 ≤ fo.toInt ∧ fo.toInt ≤ 300) (g_to_ : 0 ≤ to_.toInt ∧ to_.toInt ≤ 300) (hcw : to_.toInt ≤ (cw : Int)) (hcw2 : cw ≤ 6300) : kMi l yX12_costOf_ wsX12_costOf_ ({ frames := 2, cells := 0, slots := 0, locals := 44 } : Room) [.ref oM, .ref rw, .int fo, .int to_] sz (dC, dI) vwCl [(cI, .int), (cS, .short)] [(oM, .inr (12, [.ref mT, .int zt, .ref mS, .ref mX, .int zp, .int zf, .ref mL, .ref mB, .ref mD, .ref m1, .ref m2, .int zh, .ref mR, .int zr, .ref x1, .ref x2, .ref x3, .int zc, .ref mH, .int zy, .int za, .int zb, .int zs, .int zq, .int zw, .int ze, .ref mY, .int zn, .ref mE, .int zm, .int zl, .ref mW, .int zk, .ref mO, .int zd, .ref y1, .ref y2, .ref y3, .ref y4, .ref mZ])), (x1, .inl (cI, 300, .inl ec1)), (x2, .inl (cI, 300, .inl ec2)), (x3, .inl (cI, 300, .inl ec3)), (rw, .inl (cI, cw, .inl fr))] (fun _ => True) 0 0 (fun (A : Nat → Prop) (r : Int32) (hh9 : Heap) => kPD (dC, dI) vwCl A [(oM, .inr (12, [.ref mT, .int zt, .ref mS, .ref mX, .int zp, .int zf, .ref mL, .ref mB, .ref mD, .ref m1, .ref m2, .int zh, .ref mR, .int zr, .ref x1, .ref x2, .ref x3, .int zc, .ref mH, .int zy, .int za, .int zb, .int zs, .int zq, .int zw, .int ze, .ref mY, .int zn, .ref mE, .int zm, .int zl, .ref mW, .int zk, .ref mO, .int zd, .ref y1, .ref y2, .ref y3, .ref y4, .ref mZ])), (x1, .inl (cI, 300, .inl ec1)), (x2, .inl (cI, 300, .inl ec2)), (x3, .inl (cI, 300, .inl ec3)), (rw, .inl (cI, cw, .inl fr))] hh9) := by
  refine kMi_of (cc := cX12_costOf_) (maxL := 7) (ret := (some .int)) (lv := [(0, .ref oM), (1, .ref rw), (2, .int fo), (3, .int to_)]) (by decide +kernel) rfl rfl (Nat.le_of_ble_eq_true rfl) ?_
  intro p e s m below meth c A QQ ls hx hb hr hts hml hown hlocks hA hQQ hK hX hP hD hS hl
  have hown : s.vm.findClass RX12 = some m.cls := hown
  have hcf := k_cf hx hb hml hown hts
  replace g_zt := hid g_zt
  replace g_zp := hid g_zp
  replace g_zf := hid g_zf
  replace g_zh := hid g_zh
  replace g_zr := hid g_zr
  replace g_zc := hid g_zc
  replace g_zy := hid g_zy
  replace g_za := hid g_za
  replace g_zb := hid g_zb
  replace g_zs := hid g_zs
  replace g_zq := hid g_zq
  replace g_zn := hid g_zn
  replace g_zm := hid g_zm
  replace g_zk := hid g_zk
  replace g_fo := hid g_fo
  refine lv_iconst (v := 0) hx hb dX12_costOf__0 (by decide) ?_
  refine lv_istore (lv' := [(4, .int 0), (0, .ref oM), (1, .ref rw), (2, .int fo), (3, .int to_)]) hx hb dX12_costOf__1 hl (by decide) rfl (fun ls hl => ?_)
  refine lv_bipush (v := 32) hx hb dX12_costOf__3 (by decide) ?_
  refine lv_istore (lv' := [(5, .int 32), (4, .int 0), (0, .ref oM), (1, .ref rw), (2, .int fo), (3, .int to_)]) hx hb dX12_costOf__5 hl (by decide) rfl (fun ls hl => ?_)
  refine lv_iload_n hx hb dX12_costOf__7 rfl (lv_at hl 4 rfl) ?_
  refine lv_istore (lv' := [(6, .int fo), (5, .int 32), (4, .int 0), (0, .ref oM), (1, .ref rw), (2, .int fo), (3, .int to_)]) hx hb dX12_costOf__8 hl (by decide) rfl (fun ls hl => ?_)
  have LOOP_10 : ∀ (k_10 : Nat) (su : Int32) (be : Int32) (k : Int32) (H : Heap) (locs : List Loc) (ls : Array Slot), MSd (300 - k.toInt : Int) k_10 → (0 ≤ k.toInt ∧ k.toInt ≤ 300) → va_P (dC, dI) vwCl [(oM, .inr (12, [.ref mT, .int zt, .ref mS, .ref mX, .int zp, .int zf, .ref mL, .ref mB, .ref mD, .ref m1, .ref m2, .int zh, .ref mR, .int zr, .ref x1, .ref x2, .ref x3, .int zc, .ref mH, .int zy, .int za, .int zb, .int zs, .int zq, .int zw, .int ze, .ref mY, .int zn, .ref mE, .int zm, .int zl, .ref mW, .int zk, .ref mO, .int zd, .ref y1, .ref y2, .ref y3, .ref y4, .ref mZ])), (x1, .inl (cI, 300, .inl ec1)), (x2, .inl (cI, 300, .inl ec2)), (x3, .inl (cI, 300, .inl ec3)), (rw, .inl (cI, cw, .inl fr))] H → va_D A [(oM, .inr (12, [.ref mT, .int zt, .ref mS, .ref mX, .int zp, .int zf, .ref mL, .ref mB, .ref mD, .ref m1, .ref m2, .int zh, .ref mR, .int zr, .ref x1, .ref x2, .ref x3, .int zc, .ref mH, .int zy, .int za, .int zb, .int zs, .int zq, .int zw, .int ze, .ref mY, .int zn, .ref mE, .int zm, .int zl, .ref mW, .int zk, .ref mO, .int zd, .ref y1, .ref y2, .ref y3, .ref y4, .ref mZ])), (x1, .inl (cI, 300, .inl ec1)), (x2, .inl (cI, 300, .inl ec2)), (x3, .inl (cI, 300, .inl ec3)), (rw, .inl (cI, cw, .inl fr))] → va_S A s.heap H locs → lv_has ls 7 [(6, .int k), (5, .int be), (4, .int su), (0, .ref oM), (1, .ref rw), (2, .int fo), (3, .int to_)] → W p l e (headSpec wsX12_costOf_ ({ frames := 2, cells := 0, slots := 0, locals := 44 } : Room)).room s m ([.ref oM, .ref rw, .int fo, .int to_] : List Value).toArray below meth c H locs 0 0 (MQ below QQ ([.ref oM, .ref rw, .int fo, .int to_] : List Value).toArray s 0 0 A) (F0 m 10 ls []) := by
    clear hP hD hS hl
    intro k_10
    induction k_10 with
    | zero =>
      intro su be k H locs ls hm_10 g_k hP hD hS hl
      exact ms_0 hm_10
    | succ k_10 ih_10 =>
      intro su be k H locs ls hm_10 g_k hP hD hS hl
      refine lv_iload hx hb dX12_costOf__10 (lv_at hl 0 rfl) ?_
      refine lv_iload_n hx hb dX12_costOf__12 rfl (lv_at hl 6 rfl) ?_
      refine lv_icmp_ge (tgt := 43) hx hb dX12_costOf__13 (by decide) (fun c_1 => ?_) (fun c_1 => ?_)
      · have tc_1 : to_.toInt ≤ k.toInt := v_le c_1
        refine lv_iload hx hb dX12_costOf__43 (lv_at hl 2 rfl) ?_
        refine lv_aload_n hx hb dX12_costOf__45 rfl (lv_at hl 3 rfl) ?_
        refine lv_iload hx hb dX12_costOf__46 (lv_at hl 1 rfl) ?_
        refine lv_bipush (v := 32) hx hb dX12_costOf__48 (by decide) ?_
        refine kV_i (rest := [.int su]) (q0 := 0) (ci := 12) hcf (m_X12_costOf l dC dI cI cS H.size oM mT mS mX mL mB mD m1 m2 mR x1 x2 x3 mH mY mE mW mO y1 y2 y3 y4 mZ zt zp zf zh zr zc zy za zb zs zq zw ze zn zm zl zk zd ec1 ec2 ec3 be 32 (g_zt) (g_zp) (g_zf) (g_zh) (g_zr) (g_zc) (g_zy) (g_za) (g_zb) (g_zs) (g_zq) (g_zn) (g_zm) (g_zk)) kc_X12_costOf gX12_costOf__X12_costOf rfl rfl rfl ⟨Nat.le_of_ble_eq_true rfl, Nat.le_of_ble_eq_true rfl⟩ kX_t hK hP hD hS hA [0, 1, 2, 3] [4] rfl (by decide +kernel) rfl rfl rfl hl rfl (Nat.le_of_ble_eq_true rfl) dX12_costOf__50 ⟨Nat.le_of_ble_eq_true rfl, Nat.le_of_ble_eq_true rfl⟩ (fun r_2 H locs hB hJ hSn => ?_)
        obtain ⟨hP1, hD1⟩ := hB
        obtain ⟨hPn, hDn⟩ := hJ _ hP1 hD1 [(rw, .inl (cI, cw, .inl fr)), (oM, .inr (12, [.ref mT, .int zt, .ref mS, .ref mX, .int zp, .int zf, .ref mL, .ref mB, .ref mD, .ref m1, .ref m2, .int zh, .ref mR, .int zr, .ref x1, .ref x2, .ref x3, .int zc, .ref mH, .int zy, .int za, .int zb, .int zs, .int zq, .int zw, .int ze, .ref mY, .int zn, .ref mE, .int zm, .int zl, .ref mW, .int zk, .ref mO, .int zd, .ref y1, .ref y2, .ref y3, .ref y4, .ref mZ])), (x1, .inl (cI, 300, .inl ec1)), (x2, .inl (cI, 300, .inl ec2)), (x3, .inl (cI, 300, .inl ec3))] rfl
        clear hP hD hS hJ hP1 hD1
        have hP := hPn
        have hD := hDn
        have hS := hSn
        clear hPn hDn hSn
        refine lv_iadd hx hb dX12_costOf__53 ?_
        refine lv_topi (fun x_3 ex_3 => ?_)
        have rv3_0 := v_rng su
        have rv3_1 := v_rng r_2
        exact kl_i (v := x_3) hQQ hx hb hr hlocks hS dX12_costOf__54 (kPD_sub hP hD [1, 2, 3, 4, 0] (by decide +kernel) rfl)
      · have tc_1 : k.toInt < to_.toInt := v_nle c_1
        refine lv_iload hx hb dX12_costOf__16 (lv_at hl 2 rfl) ?_
        refine lv_aload_n hx hb dX12_costOf__18 rfl (lv_at hl 3 rfl) ?_
        refine lv_iload hx hb dX12_costOf__19 (lv_at hl 1 rfl) ?_
        refine lv_aload_n hx hb dX12_costOf__21 rfl (lv_at hl 4 rfl) ?_
        refine lv_iload hx hb dX12_costOf__22 (lv_at hl 0 rfl) ?_
        refine va_iald hx hb hK hP 4 0 rfl rfl (v_in (by omega)) dX12_costOf__24 ?_
        refine lv_topi (fun x_4 ex_4 => ?_)
        refine kV_i (rest := [.int su]) (q0 := 0) (ci := 12) hcf (m_X12_costOf l dC dI cI cS H.size oM mT mS mX mL mB mD m1 m2 mR x1 x2 x3 mH mY mE mW mO y1 y2 y3 y4 mZ zt zp zf zh zr zc zy za zb zs zq zw ze zn zm zl zk zd ec1 ec2 ec3 be x_4 (g_zt) (g_zp) (g_zf) (g_zh) (g_zr) (g_zc) (g_zy) (g_za) (g_zb) (g_zs) (g_zq) (g_zn) (g_zm) (g_zk)) kc_X12_costOf gX12_costOf__X12_costOf rfl rfl rfl ⟨Nat.le_of_ble_eq_true rfl, Nat.le_of_ble_eq_true rfl⟩ kX_t hK hP hD hS hA [0, 1, 2, 3] [4] rfl (by decide +kernel) rfl rfl rfl hl rfl (Nat.le_of_ble_eq_true rfl) dX12_costOf__25 ⟨Nat.le_of_ble_eq_true rfl, Nat.le_of_ble_eq_true rfl⟩ (fun r_5 H locs hB hJ hSn => ?_)
        obtain ⟨hP1, hD1⟩ := hB
        obtain ⟨hPn, hDn⟩ := hJ _ hP1 hD1 [(rw, .inl (cI, cw, .inl fr)), (oM, .inr (12, [.ref mT, .int zt, .ref mS, .ref mX, .int zp, .int zf, .ref mL, .ref mB, .ref mD, .ref m1, .ref m2, .int zh, .ref mR, .int zr, .ref x1, .ref x2, .ref x3, .int zc, .ref mH, .int zy, .int za, .int zb, .int zs, .int zq, .int zw, .int ze, .ref mY, .int zn, .ref mE, .int zm, .int zl, .ref mW, .int zk, .ref mO, .int zd, .ref y1, .ref y2, .ref y3, .ref y4, .ref mZ])), (x1, .inl (cI, 300, .inl ec1)), (x2, .inl (cI, 300, .inl ec2)), (x3, .inl (cI, 300, .inl ec3))] rfl
        clear hP hD hS hJ hP1 hD1
        have hP := hPn
        have hD := hDn
        have hS := hSn
        clear hPn hDn hSn
        refine lv_iadd hx hb dX12_costOf__28 ?_
        refine lv_topi (fun x_6 ex_6 => ?_)
        have rv6_0 := v_rng su
        have rv6_1 := v_rng r_5
        refine lv_istore (lv' := [(4, .int x_6), (6, .int k), (5, .int be), (0, .ref oM), (1, .ref rw), (2, .int fo), (3, .int to_)]) hx hb dX12_costOf__29 hl (by decide) rfl (fun ls hl => ?_)
        refine lv_aload_n hx hb dX12_costOf__31 rfl (lv_at hl 4 rfl) ?_
        refine lv_iload hx hb dX12_costOf__32 (lv_at hl 1 rfl) ?_
        refine va_iald hx hb hK hP 0 0 rfl rfl (v_in (by omega)) dX12_costOf__34 ?_
        refine k_i (y := x_4) ex_4.symm ?_
        refine lv_istore (lv' := [(5, .int x_4), (4, .int x_6), (6, .int k), (0, .ref oM), (1, .ref rw), (2, .int fo), (3, .int to_)]) hx hb dX12_costOf__35 hl (by decide) rfl (fun ls hl => ?_)
        obtain ⟨x_7, ex_7⟩ : ∃ y : Int32, y = k + 1 := ⟨_, rfl⟩
        have tx_7 : x_7.toInt = k.toInt + 1 := v_addR (l2 := 1) (h2 := 1) ex_7 g_k (by decide) (by decide) (by decide)
        refine lv_iinc (v := x_7) (lv' := [(6, .int x_7), (5, .int x_4), (4, .int x_6), (0, .ref oM), (1, .ref rw), (2, .int fo), (3, .int to_)]) hx hb dX12_costOf__37 hl (k := 2) rfl (by rw [ex_7]; rfl) (by decide) rfl (fun ls hl => ?_)
        refine lv_goto (tgt := 10) hx hb dX12_costOf__40 (by decide) ?_
        exact ih_10 x_6 x_4 x_7 _ _ _ (ms_lt hm_10 (by show ((300 - x_7.toInt : Int)) < 300 - k.toInt; omega) (by show (0 : Int) < 300 - k.toInt; omega)) (by show 0 ≤ x_7.toInt ∧ x_7.toInt ≤ 300; omega) (hP.sub [1, 2, 3, 4, 0] rfl) (hD.sub [1, 2, 3, 4, 0] (by decide +kernel) rfl) hS (lv_sub hl [0, 1, 2, 3, 4, 5, 6] rfl)
  exact LOOP_10 _ 0 32 fo _ _ _ (ms_s _) (g_fo) hP hD hS (lv_sub hl [0, 1, 2, 3, 4, 5, 6] rfl)

set_option maxHeartbeats 40000000 in
set_option maxRecDepth 100000 in
theorem y_worth (l : Launch) (dC : Nat → ClassId) (dI : Nat → Nat → Nat) (cI cS : ClassId) (sz : Nat) (oM : Nat) (mT : Nat) (mS : Nat) (mX : Nat) (mL : Nat) (mB : Nat) (mD : Nat) (m1 : Nat) (m2 : Nat) (mR : Nat) (x1 : Nat) (x2 : Nat) (x3 : Nat) (mH : Nat) (mY : Nat) (mE : Nat) (mW : Nat) (mO : Nat) (y1 : Nat) (y2 : Nat) (y3 : Nat) (y4 : Nat) (mZ : Nat) (zt : Int32) (zp : Int32) (zf : Int32) (zh : Int32) (zr : Int32) (zc : Int32) (zy : Int32) (za : Int32) (zb : Int32) (zs : Int32) (zq : Int32) (zw : Int32) (ze : Int32) (zn : Int32) (zm : Int32) (zl : Int32) (zk : Int32) (zd : Int32) (ec1 : Nat → Int32) (ec2 : Nat → Int32) (ec3 : Nat → Int32) (eS : Nat → Int32) (eX : Nat → Int32) (g_zt : 0 ≤ zt.toInt ∧ zt.toInt ≤ 900) (g_zp : 0 ≤ zp.toInt ∧ zp.toInt ≤ 20) (g_zf : 0 ≤ zf.toInt ∧ zf.toInt ≤ 19) (g_zh : 0 ≤ zh.toInt ∧ zh.toInt ≤ 6) (g_zr : 0 ≤ zr.toInt ∧ zr.toInt ≤ 258) (g_zc : 0 ≤ zc.toInt ∧ zc.toInt ≤ 300) (g_zy : 0 ≤ zy.toInt ∧ zy.toInt ≤ 65536) (g_za : 0 ≤ za.toInt ∧ za.toInt ≤ 5) (g_zb : 0 ≤ zb.toInt ∧ zb.toInt ≤ 5) (g_zs : 0 ≤ zs.toInt ∧ zs.toInt ≤ 2000000) (g_zq : -1 ≤ zq.toInt ∧ zq.toInt ≤ 2000000) (g_zn : 0 ≤ zn.toInt ∧ zn.toInt ≤ 2600) (g_zm : 0 ≤ zm.toInt ∧ zm.toInt ≤ 2600) (g_zk : 0 ≤ zk.toInt ∧ zk.toInt ≤ 300) (g_eS : rg 0 300 eS) (g_eX : rg 0 65535 eX) (hzs : zs.toInt ≤ 1000000) : kMi l yX12_worth wsX12_worth ({ frames := 3, cells := 0, slots := 0, locals := 70 } : Room) [.ref oM] sz (dC, dI) vwCl [(cI, .int), (cS, .short)] [(oM, .inr (12, [.ref mT, .int zt, .ref mS, .ref mX, .int zp, .int zf, .ref mL, .ref mB, .ref mD, .ref m1, .ref m2, .int zh, .ref mR, .int zr, .ref x1, .ref x2, .ref x3, .int zc, .ref mH, .int zy, .int za, .int zb, .int zs, .int zq, .int zw, .int ze, .ref mY, .int zn, .ref mE, .int zm, .int zl, .ref mW, .int zk, .ref mO, .int zd, .ref y1, .ref y2, .ref y3, .ref y4, .ref mZ])), (x1, .inl (cI, 300, .inl ec1)), (x2, .inl (cI, 300, .inl ec2)), (x3, .inl (cI, 300, .inl ec3)), (mS, .inl (cI, 21, .inl eS)), (mX, .inl (cI, 6300, .inl eX))] (fun _ => True) 0 0 (fun (A : Nat → Prop) (r : Int32) (hh9 : Heap) => ∃ (ze' : Int32), kPD (dC, dI) vwCl A [(oM, .inr (12, [.ref mT, .int zt, .ref mS, .ref mX, .int zp, .int zf, .ref mL, .ref mB, .ref mD, .ref m1, .ref m2, .int zh, .ref mR, .int zr, .ref x1, .ref x2, .ref x3, .int zc, .ref mH, .int zy, .int za, .int zb, .int zs, .int zq, .int zw, .int ze', .ref mY, .int zn, .ref mE, .int zm, .int zl, .ref mW, .int zk, .ref mO, .int zd, .ref y1, .ref y2, .ref y3, .ref y4, .ref mZ])), (x1, .inl (cI, 300, .inl ec1)), (x2, .inl (cI, 300, .inl ec2)), (x3, .inl (cI, 300, .inl ec3)), (mS, .inl (cI, 21, .inl eS)), (mX, .inl (cI, 6300, .inl eX))] hh9) := by
  refine kMi_of (cc := cX12_worth) (maxL := 1) (ret := (some .int)) (lv := [(0, .ref oM)]) (by decide +kernel) rfl rfl (Nat.le_of_ble_eq_true rfl) ?_
  intro p e s m below meth c A QQ ls hx hb hr hts hml hown hlocks hA hQQ hK hX hP hD hS hl
  have hown : s.vm.findClass RX12 = some m.cls := hown
  have hcf := k_cf hx hb hml hown hts
  have in_X12 : ∀ w ∈ wsX120, w ∈ wsX12_worth := fun _ h => List.mem_cons_of_mem _ (List.mem_append_right _ (h))
  replace g_zt := hid g_zt
  replace g_zp := hid g_zp
  replace g_zf := hid g_zf
  replace g_zh := hid g_zh
  replace g_zr := hid g_zr
  replace g_zc := hid g_zc
  replace g_zy := hid g_zy
  replace g_za := hid g_za
  replace g_zb := hid g_zb
  replace g_zs := hid g_zs
  replace g_zq := hid g_zq
  replace g_zn := hid g_zn
  replace g_zm := hid g_zm
  replace g_zk := hid g_zk
  refine lv_aload_n hx hb dX12_worth_0 rfl (lv_at hl 0 rfl) ?_
  refine lv_iconst (v := 0) hx hb dX12_worth_1 (by decide) ?_
  refine va_put (D := (dC, dI)) (ci := 12) (v := .int 0) (ty := .int) (C := RX12) (T := TX12) (N := 40) hx hb hts in_X12 tyX12 tyX12_ok nmX12 hown hK hP hD hS 0 rfl rfl 25 (by decide) (hts (.fieldLink RX12 85 "TextMenderModel" "thrown" "I") (List.mem_of_getElem? (i := 1) rfl)) (fun _ h9 => h9) rfl (by decide +kernel) rfl rfl (Nat.le_of_ble_eq_true rfl) dX12_worth_2 (kW (wn := [(oM, .inr (12, [.ref mT, .int zt, .ref mS, .ref mX, .int zp, .int zf, .ref mL, .ref mB, .ref mD, .ref m1, .ref m2, .int zh, .ref mR, .int zr, .ref x1, .ref x2, .ref x3, .int zc, .ref mH, .int zy, .int za, .int zb, .int zs, .int zq, .int zw, .int 0, .ref mY, .int zn, .ref mE, .int zm, .int zl, .ref mW, .int zk, .ref mO, .int zd, .ref y1, .ref y2, .ref y3, .ref y4, .ref mZ])), (x1, .inl (cI, 300, .inl ec1)), (x2, .inl (cI, 300, .inl ec2)), (x3, .inl (cI, 300, .inl ec3)), (mS, .inl (cI, 21, .inl eS)), (mX, .inl (cI, 6300, .inl eX))]) rfl (fun H locs hPn hDn hSn => ?_))
  clear hP hD hS
  have hP := hPn
  have hD := hDn
  have hS := hSn
  clear hPn hDn hSn
  refine lv_aload_n hx hb dX12_worth_5 rfl (lv_at hl 0 rfl) ?_
  refine lv_aload_n hx hb dX12_worth_6 rfl (lv_at hl 0 rfl) ?_
  refine va_get (D := (dC, dI)) (ci := 12) (v := .ref mX) (C := RX12) (T := TX12) (N := 40) hx hb hts in_X12 hown hK hP 0 rfl rfl 3 (by decide) (hts (.fieldLink RX12 16 "TextMenderModel" "texts" "[I") (List.mem_of_getElem? (i := 2) rfl)) (fun _ h9 => h9) rfl dX12_worth_7 ?_
  refine lv_iconst (v := 0) hx hb dX12_worth_10 (by decide) ?_
  refine lv_aload_n hx hb dX12_worth_11 rfl (lv_at hl 0 rfl) ?_
  refine va_get (D := (dC, dI)) (ci := 12) (v := .ref mS) (C := RX12) (T := TX12) (N := 40) hx hb hts in_X12 hown hK hP 0 rfl rfl 2 (by decide) (hts (.fieldLink RX12 13 "TextMenderModel" "sizes" "[I") (List.mem_of_getElem? (i := 3) rfl)) (fun _ h9 => h9) rfl dX12_worth_12 ?_
  refine lv_iconst (v := 0) hx hb dX12_worth_15 (by decide) ?_
  refine va_iald hx hb hK hP 4 0 rfl rfl (by unfold vp_in; decide) dX12_worth_16 ?_
  refine lv_topi (fun x_1 ex_1 => ?_)
  have tx_1 : 0 ≤ x_1.toInt ∧ x_1.toInt ≤ 300 := rg_at g_eS ex_1
  refine kV_i (rest := []) (q0 := 0) (ci := 12) hcf (m_X12_costOf_ l dC dI cI cS H.size oM mX mT mS mX mL mB mD m1 m2 mR x1 x2 x3 mH mY mE mW mO y1 y2 y3 y4 mZ 6300 zt zp zf zh zr zc zy za zb zs zq zw 0 zn zm zl zk zd ec1 ec2 ec3 eX 0 x_1 (g_zt) (g_zp) (g_zf) (g_zh) (g_zr) (g_zc) (g_zy) (g_za) (g_zb) (g_zs) (g_zq) (g_zn) (g_zm) (g_zk) (by decide) (v_rr tx_1 (by decide) (by decide)) (by omega) (by omega)) kc_X12_costOf_ gX12_worth_X12_costOf_ rfl rfl rfl ⟨Nat.le_of_ble_eq_true rfl, Nat.le_of_ble_eq_true rfl⟩ kX_t hK hP hD hS hA [0, 1, 2, 3, 5] [4] rfl (by decide +kernel) rfl rfl rfl hl rfl (Nat.le_of_ble_eq_true rfl) dX12_worth_17 ⟨Nat.le_of_ble_eq_true rfl, Nat.le_of_ble_eq_true rfl⟩ (fun r_2 H locs hB hJ hSn => ?_)
  obtain ⟨hP1, hD1⟩ := hB
  obtain ⟨hPn, hDn⟩ := hJ _ hP1 hD1 [(mS, .inl (cI, 21, .inl eS)), (oM, .inr (12, [.ref mT, .int zt, .ref mS, .ref mX, .int zp, .int zf, .ref mL, .ref mB, .ref mD, .ref m1, .ref m2, .int zh, .ref mR, .int zr, .ref x1, .ref x2, .ref x3, .int zc, .ref mH, .int zy, .int za, .int zb, .int zs, .int zq, .int zw, .int 0, .ref mY, .int zn, .ref mE, .int zm, .int zl, .ref mW, .int zk, .ref mO, .int zd, .ref y1, .ref y2, .ref y3, .ref y4, .ref mZ])), (x1, .inl (cI, 300, .inl ec1)), (x2, .inl (cI, 300, .inl ec2)), (x3, .inl (cI, 300, .inl ec3)), (mX, .inl (cI, 6300, .inl eX))] rfl
  clear hP hD hS hJ hP1 hD1
  have hP := hPn
  have hD := hDn
  have hS := hSn
  clear hPn hDn hSn
  exact kl_i (v := r_2) hQQ hx hb hr hlocks hS dX12_worth_20 ⟨0, kPD_sub hP hD [1, 2, 3, 4, 0, 5] (by decide +kernel) rfl⟩

end

/-! 56.a.rows -/
section
set_option maxRecDepth 100000 in
theorem dA197_cX12_rows : kDec cX12_rows [(0, .aload_n 0, 1), (1, .iconst 0, 1), (2, .putfield 85, 3), (5, .aload_n 0, 1), (6, .iconst (-1), 1), (7, .putfield 55, 3), (10, .iload_n 1, 1), (11, .iconst 1, 1), (12, .if_icmp .lt 8, 3), (20, .iconst (-1), 1), (21, .ireturn, 1), (15, .iload_n 1, 1), (16, .iconst 3, 1), (17, .if_icmp .le 5, 3), (22, .aload_n 0, 1), (23, .iconst 0, 1), (24, .putfield 180, 3), (27, .iconst 1, 1), (28, .istore_n 2, 1), (29, .iload_n 2, 1), (30, .iload_n 1, 1), (31, .if_icmp .gt 177, 3), (208, .aload_n 0, 1), (209, .getfield 180, 3)] = true := by decide +kernel
theorem dX12_rows_0 : decode cX12_rows 0 = .ok (.aload_n 0, 1) := kDec_at dA197_cX12_rows 0 rfl
theorem dX12_rows_1 : decode cX12_rows 1 = .ok (.iconst 0, 1) := kDec_at dA197_cX12_rows 1 rfl
theorem dX12_rows_2 : decode cX12_rows 2 = .ok (.putfield 85, 3) := kDec_at dA197_cX12_rows 2 rfl
theorem dX12_rows_5 : decode cX12_rows 5 = .ok (.aload_n 0, 1) := kDec_at dA197_cX12_rows 3 rfl
theorem dX12_rows_6 : decode cX12_rows 6 = .ok (.iconst (-1), 1) := kDec_at dA197_cX12_rows 4 rfl
theorem dX12_rows_7 : decode cX12_rows 7 = .ok (.putfield 55, 3) := kDec_at dA197_cX12_rows 5 rfl
theorem dX12_rows_10 : decode cX12_rows 10 = .ok (.iload_n 1, 1) := kDec_at dA197_cX12_rows 6 rfl
theorem dX12_rows_11 : decode cX12_rows 11 = .ok (.iconst 1, 1) := kDec_at dA197_cX12_rows 7 rfl
theorem dX12_rows_12 : decode cX12_rows 12 = .ok (.if_icmp .lt 8, 3) := kDec_at dA197_cX12_rows 8 rfl
theorem dX12_rows_20 : decode cX12_rows 20 = .ok (.iconst (-1), 1) := kDec_at dA197_cX12_rows 9 rfl
theorem dX12_rows_21 : decode cX12_rows 21 = .ok (.ireturn, 1) := kDec_at dA197_cX12_rows 10 rfl
theorem dX12_rows_15 : decode cX12_rows 15 = .ok (.iload_n 1, 1) := kDec_at dA197_cX12_rows 11 rfl
theorem dX12_rows_16 : decode cX12_rows 16 = .ok (.iconst 3, 1) := kDec_at dA197_cX12_rows 12 rfl
theorem dX12_rows_17 : decode cX12_rows 17 = .ok (.if_icmp .le 5, 3) := kDec_at dA197_cX12_rows 13 rfl
theorem dX12_rows_22 : decode cX12_rows 22 = .ok (.aload_n 0, 1) := kDec_at dA197_cX12_rows 14 rfl
theorem dX12_rows_23 : decode cX12_rows 23 = .ok (.iconst 0, 1) := kDec_at dA197_cX12_rows 15 rfl
theorem dX12_rows_24 : decode cX12_rows 24 = .ok (.putfield 180, 3) := kDec_at dA197_cX12_rows 16 rfl
theorem dX12_rows_27 : decode cX12_rows 27 = .ok (.iconst 1, 1) := kDec_at dA197_cX12_rows 17 rfl
theorem dX12_rows_28 : decode cX12_rows 28 = .ok (.istore_n 2, 1) := kDec_at dA197_cX12_rows 18 rfl
theorem dX12_rows_29 : decode cX12_rows 29 = .ok (.iload_n 2, 1) := kDec_at dA197_cX12_rows 19 rfl
theorem dX12_rows_30 : decode cX12_rows 30 = .ok (.iload_n 1, 1) := kDec_at dA197_cX12_rows 20 rfl
theorem dX12_rows_31 : decode cX12_rows 31 = .ok (.if_icmp .gt 177, 3) := kDec_at dA197_cX12_rows 21 rfl
theorem dX12_rows_208 : decode cX12_rows 208 = .ok (.aload_n 0, 1) := kDec_at dA197_cX12_rows 22 rfl
theorem dX12_rows_209 : decode cX12_rows 209 = .ok (.getfield 180, 3) := kDec_at dA197_cX12_rows 23 rfl
set_option maxRecDepth 100000 in
theorem dA198_cX12_rows : kDec cX12_rows [(212, .ireturn, 1), (34, .aload_n 0, 1), (35, .getfield 161, 3), (38, .ifCond .ne 7, 3), (45, .aload_n 0, 1), (46, .getfield 161, 3), (49, .iload_n 2, 1), (50, .invokestatic 183, 3), (53, .istore_n 3, 1), (54, .iconst 0, 1), (55, .istore 4, 2), (57, .iload 4, 2), (59, .iload_n 3, 1), (60, .if_icmp .ge 142, 3), (202, .iinc 2 1, 3), (205, .goto (-176), 3), (63, .aload_n 0, 1), (64, .iload 4, 2), (66, .iload_n 2, 1), (67, .invokevirtual 186, 3), (70, .ifCond .ne 6, 3), (76, .bipush 6, 2), (78, .aload_n 0, 1), (79, .getfield 180, 3)] = true := by decide +kernel
theorem dX12_rows_212 : decode cX12_rows 212 = .ok (.ireturn, 1) := kDec_at dA198_cX12_rows 0 rfl
theorem dX12_rows_34 : decode cX12_rows 34 = .ok (.aload_n 0, 1) := kDec_at dA198_cX12_rows 1 rfl
theorem dX12_rows_35 : decode cX12_rows 35 = .ok (.getfield 161, 3) := kDec_at dA198_cX12_rows 2 rfl
theorem dX12_rows_38 : decode cX12_rows 38 = .ok (.ifCond .ne 7, 3) := kDec_at dA198_cX12_rows 3 rfl
theorem dX12_rows_45 : decode cX12_rows 45 = .ok (.aload_n 0, 1) := kDec_at dA198_cX12_rows 4 rfl
theorem dX12_rows_46 : decode cX12_rows 46 = .ok (.getfield 161, 3) := kDec_at dA198_cX12_rows 5 rfl
theorem dX12_rows_49 : decode cX12_rows 49 = .ok (.iload_n 2, 1) := kDec_at dA198_cX12_rows 6 rfl
theorem dX12_rows_50 : decode cX12_rows 50 = .ok (.invokestatic 183, 3) := kDec_at dA198_cX12_rows 7 rfl
theorem dX12_rows_53 : decode cX12_rows 53 = .ok (.istore_n 3, 1) := kDec_at dA198_cX12_rows 8 rfl
theorem dX12_rows_54 : decode cX12_rows 54 = .ok (.iconst 0, 1) := kDec_at dA198_cX12_rows 9 rfl
theorem dX12_rows_55 : decode cX12_rows 55 = .ok (.istore 4, 2) := kDec_at dA198_cX12_rows 10 rfl
theorem dX12_rows_57 : decode cX12_rows 57 = .ok (.iload 4, 2) := kDec_at dA198_cX12_rows 11 rfl
theorem dX12_rows_59 : decode cX12_rows 59 = .ok (.iload_n 3, 1) := kDec_at dA198_cX12_rows 12 rfl
theorem dX12_rows_60 : decode cX12_rows 60 = .ok (.if_icmp .ge 142, 3) := kDec_at dA198_cX12_rows 13 rfl
theorem dX12_rows_202 : decode cX12_rows 202 = .ok (.iinc 2 1, 3) := kDec_at dA198_cX12_rows 14 rfl
theorem dX12_rows_205 : decode cX12_rows 205 = .ok (.goto (-176), 3) := kDec_at dA198_cX12_rows 15 rfl
theorem dX12_rows_63 : decode cX12_rows 63 = .ok (.aload_n 0, 1) := kDec_at dA198_cX12_rows 16 rfl
theorem dX12_rows_64 : decode cX12_rows 64 = .ok (.iload 4, 2) := kDec_at dA198_cX12_rows 17 rfl
theorem dX12_rows_66 : decode cX12_rows 66 = .ok (.iload_n 2, 1) := kDec_at dA198_cX12_rows 18 rfl
theorem dX12_rows_67 : decode cX12_rows 67 = .ok (.invokevirtual 186, 3) := kDec_at dA198_cX12_rows 19 rfl
theorem dX12_rows_70 : decode cX12_rows 70 = .ok (.ifCond .ne 6, 3) := kDec_at dA198_cX12_rows 20 rfl
theorem dX12_rows_76 : decode cX12_rows 76 = .ok (.bipush 6, 2) := kDec_at dA198_cX12_rows 21 rfl
theorem dX12_rows_78 : decode cX12_rows 78 = .ok (.aload_n 0, 1) := kDec_at dA198_cX12_rows 22 rfl
theorem dX12_rows_79 : decode cX12_rows 79 = .ok (.getfield 180, 3) := kDec_at dA198_cX12_rows 23 rfl
set_option maxRecDepth 20000 in
theorem ggX12_rows_X12_power : GoodIn wsX12_rows wsX12_power := goodIn_r _ [11] rfl (by decide +kernel)
set_option maxRecDepth 20000 in
theorem gX12_rows_X12_power : GoodIn wsX12_rows (va_wsS RX12 183 yX12_power wsX12_power) := goodIn_app (goodIn_r _ [8, 9, 10] rfl (by decide +kernel)) ggX12_rows_X12_power
set_option maxRecDepth 20000 in
theorem ggX12_rows_X12_makes : GoodIn wsX12_rows wsX12_makes := goodIn_r _ [15, 4, 16, 17, 18, 19, 20, 10, 21, 22, 7, 6, 23, 24, 25, 26, 27, 28, 29, 30, 31, 32, 33, 34, 35, 36, 37, 38, 39, 40, 41, 42, 43, 44, 45, 46, 47, 48, 49, 50, 51, 52, 53, 54, 55, 56, 57, 58, 59, 60, 61, 62, 63, 64, 65, 66, 67, 68, 69, 70, 71, 72, 73, 74, 90, 91, 92, 93, 94, 95, 96, 97, 98, 99, 100, 101, 102, 103, 104, 105, 106, 107, 108, 109, 110, 111, 112, 113, 114, 115, 116, 117, 118, 119, 120, 121, 122, 123, 124, 125, 126, 127, 128, 129] rfl (by decide +kernel)
set_option maxRecDepth 20000 in
theorem gX12_rows_X12_makes : GoodIn wsX12_rows (wsV RX12 186 RX12 yX12_makes wsX12_makes) := goodIn_app (goodIn_r _ [12, 13, 14, 10] rfl (by decide +kernel)) ggX12_rows_X12_makes
set_option maxRecDepth 100000 in
theorem dA199_cX12_rows : kDec cX12_rows [(82, .imul, 1), (83, .istore 5, 2), (85, .aload_n 0, 1), (86, .getfield 36, 3), (89, .iload 5, 2), (91, .iload_n 2, 1), (92, .iastore, 1), (93, .iconst 0, 1), (94, .istore 6, 2), (96, .iload 6, 2), (98, .iconst 3, 1), (99, .if_icmp .ge 52, 3), (151, .aload_n 0, 1), (152, .getfield 36, 3), (155, .iload 5, 2), (157, .iconst 4, 1), (158, .iadd, 1), (159, .aload_n 0, 1), (160, .aload_n 0, 1), (161, .getfield 64, 3), (164, .iconst 0, 1), (165, .aload_n 0, 1), (166, .getfield 135, 3), (169, .invokevirtual 189, 3)] = true := by decide +kernel
theorem dX12_rows_82 : decode cX12_rows 82 = .ok (.imul, 1) := kDec_at dA199_cX12_rows 0 rfl
theorem dX12_rows_83 : decode cX12_rows 83 = .ok (.istore 5, 2) := kDec_at dA199_cX12_rows 1 rfl
theorem dX12_rows_85 : decode cX12_rows 85 = .ok (.aload_n 0, 1) := kDec_at dA199_cX12_rows 2 rfl
theorem dX12_rows_86 : decode cX12_rows 86 = .ok (.getfield 36, 3) := kDec_at dA199_cX12_rows 3 rfl
theorem dX12_rows_89 : decode cX12_rows 89 = .ok (.iload 5, 2) := kDec_at dA199_cX12_rows 4 rfl
theorem dX12_rows_91 : decode cX12_rows 91 = .ok (.iload_n 2, 1) := kDec_at dA199_cX12_rows 5 rfl
theorem dX12_rows_92 : decode cX12_rows 92 = .ok (.iastore, 1) := kDec_at dA199_cX12_rows 6 rfl
theorem dX12_rows_93 : decode cX12_rows 93 = .ok (.iconst 0, 1) := kDec_at dA199_cX12_rows 7 rfl
theorem dX12_rows_94 : decode cX12_rows 94 = .ok (.istore 6, 2) := kDec_at dA199_cX12_rows 8 rfl
theorem dX12_rows_96 : decode cX12_rows 96 = .ok (.iload 6, 2) := kDec_at dA199_cX12_rows 9 rfl
theorem dX12_rows_98 : decode cX12_rows 98 = .ok (.iconst 3, 1) := kDec_at dA199_cX12_rows 10 rfl
theorem dX12_rows_99 : decode cX12_rows 99 = .ok (.if_icmp .ge 52, 3) := kDec_at dA199_cX12_rows 11 rfl
theorem dX12_rows_151 : decode cX12_rows 151 = .ok (.aload_n 0, 1) := kDec_at dA199_cX12_rows 12 rfl
theorem dX12_rows_152 : decode cX12_rows 152 = .ok (.getfield 36, 3) := kDec_at dA199_cX12_rows 13 rfl
theorem dX12_rows_155 : decode cX12_rows 155 = .ok (.iload 5, 2) := kDec_at dA199_cX12_rows 14 rfl
theorem dX12_rows_157 : decode cX12_rows 157 = .ok (.iconst 4, 1) := kDec_at dA199_cX12_rows 15 rfl
theorem dX12_rows_158 : decode cX12_rows 158 = .ok (.iadd, 1) := kDec_at dA199_cX12_rows 16 rfl
theorem dX12_rows_159 : decode cX12_rows 159 = .ok (.aload_n 0, 1) := kDec_at dA199_cX12_rows 17 rfl
theorem dX12_rows_160 : decode cX12_rows 160 = .ok (.aload_n 0, 1) := kDec_at dA199_cX12_rows 18 rfl
theorem dX12_rows_161 : decode cX12_rows 161 = .ok (.getfield 64, 3) := kDec_at dA199_cX12_rows 19 rfl
theorem dX12_rows_164 : decode cX12_rows 164 = .ok (.iconst 0, 1) := kDec_at dA199_cX12_rows 20 rfl
theorem dX12_rows_165 : decode cX12_rows 165 = .ok (.aload_n 0, 1) := kDec_at dA199_cX12_rows 21 rfl
theorem dX12_rows_166 : decode cX12_rows 166 = .ok (.getfield 135, 3) := kDec_at dA199_cX12_rows 22 rfl
theorem dX12_rows_169 : decode cX12_rows 169 = .ok (.invokevirtual 189, 3) := kDec_at dA199_cX12_rows 23 rfl
set_option maxRecDepth 20000 in
theorem ggX12_rows_X12_costOf_ : GoodIn wsX12_rows wsX12_costOf_ := goodIn_r _ [78, 79, 80, 81, 10, 82, 83, 84, 85, 86, 87, 88, 89, 90, 91, 92, 93, 94, 95, 96, 97, 98, 99, 100, 101, 102, 103, 104, 105, 106, 107, 108, 109, 110, 111, 112, 113, 114, 115, 116, 117, 118, 119, 120, 121, 122, 123, 124, 125, 126, 127, 128, 129] rfl (by decide +kernel)
set_option maxRecDepth 20000 in
theorem gX12_rows_X12_costOf_ : GoodIn wsX12_rows (wsV RX12 189 RX12 yX12_costOf_ wsX12_costOf_) := goodIn_app (goodIn_r _ [75, 76, 77, 10] rfl (by decide +kernel)) ggX12_rows_X12_costOf_
set_option maxRecDepth 100000 in
theorem dA200_cX12_rows : kDec cX12_rows [(172, .iastore, 1), (173, .aload_n 0, 1), (174, .getfield 36, 3), (177, .iload 5, 2), (179, .iconst 5, 1), (180, .iadd, 1), (181, .aload_n 0, 1), (182, .getfield 135, 3), (185, .iastore, 1), (186, .aload_n 0, 1), (187, .dup, 1), (188, .getfield 180, 3), (191, .iconst 1, 1), (192, .iadd, 1), (193, .putfield 180, 3), (196, .iinc 4 1, 3), (199, .goto (-142), 3), (102, .aload_n 0, 1), (103, .getfield 36, 3), (106, .iload 5, 2), (108, .iconst 1, 1), (109, .iadd, 1), (110, .iload 6, 2), (112, .iadd, 1)] = true := by decide +kernel
theorem dX12_rows_172 : decode cX12_rows 172 = .ok (.iastore, 1) := kDec_at dA200_cX12_rows 0 rfl
theorem dX12_rows_173 : decode cX12_rows 173 = .ok (.aload_n 0, 1) := kDec_at dA200_cX12_rows 1 rfl
theorem dX12_rows_174 : decode cX12_rows 174 = .ok (.getfield 36, 3) := kDec_at dA200_cX12_rows 2 rfl
theorem dX12_rows_177 : decode cX12_rows 177 = .ok (.iload 5, 2) := kDec_at dA200_cX12_rows 3 rfl
theorem dX12_rows_179 : decode cX12_rows 179 = .ok (.iconst 5, 1) := kDec_at dA200_cX12_rows 4 rfl
theorem dX12_rows_180 : decode cX12_rows 180 = .ok (.iadd, 1) := kDec_at dA200_cX12_rows 5 rfl
theorem dX12_rows_181 : decode cX12_rows 181 = .ok (.aload_n 0, 1) := kDec_at dA200_cX12_rows 6 rfl
theorem dX12_rows_182 : decode cX12_rows 182 = .ok (.getfield 135, 3) := kDec_at dA200_cX12_rows 7 rfl
theorem dX12_rows_185 : decode cX12_rows 185 = .ok (.iastore, 1) := kDec_at dA200_cX12_rows 8 rfl
theorem dX12_rows_186 : decode cX12_rows 186 = .ok (.aload_n 0, 1) := kDec_at dA200_cX12_rows 9 rfl
theorem dX12_rows_187 : decode cX12_rows 187 = .ok (.dup, 1) := kDec_at dA200_cX12_rows 10 rfl
theorem dX12_rows_188 : decode cX12_rows 188 = .ok (.getfield 180, 3) := kDec_at dA200_cX12_rows 11 rfl
theorem dX12_rows_191 : decode cX12_rows 191 = .ok (.iconst 1, 1) := kDec_at dA200_cX12_rows 12 rfl
theorem dX12_rows_192 : decode cX12_rows 192 = .ok (.iadd, 1) := kDec_at dA200_cX12_rows 13 rfl
theorem dX12_rows_193 : decode cX12_rows 193 = .ok (.putfield 180, 3) := kDec_at dA200_cX12_rows 14 rfl
theorem dX12_rows_196 : decode cX12_rows 196 = .ok (.iinc 4 1, 3) := kDec_at dA200_cX12_rows 15 rfl
theorem dX12_rows_199 : decode cX12_rows 199 = .ok (.goto (-142), 3) := kDec_at dA200_cX12_rows 16 rfl
theorem dX12_rows_102 : decode cX12_rows 102 = .ok (.aload_n 0, 1) := kDec_at dA200_cX12_rows 17 rfl
theorem dX12_rows_103 : decode cX12_rows 103 = .ok (.getfield 36, 3) := kDec_at dA200_cX12_rows 18 rfl
theorem dX12_rows_106 : decode cX12_rows 106 = .ok (.iload 5, 2) := kDec_at dA200_cX12_rows 19 rfl
theorem dX12_rows_108 : decode cX12_rows 108 = .ok (.iconst 1, 1) := kDec_at dA200_cX12_rows 20 rfl
theorem dX12_rows_109 : decode cX12_rows 109 = .ok (.iadd, 1) := kDec_at dA200_cX12_rows 21 rfl
theorem dX12_rows_110 : decode cX12_rows 110 = .ok (.iload 6, 2) := kDec_at dA200_cX12_rows 22 rfl
theorem dX12_rows_112 : decode cX12_rows 112 = .ok (.iadd, 1) := kDec_at dA200_cX12_rows 23 rfl
set_option maxRecDepth 100000 in
theorem dA201_cX12_rows : kDec cX12_rows [(113, .iload 6, 2), (115, .iload_n 2, 1), (116, .if_icmp .ge 27, 3), (143, .iconst (-1), 1), (144, .iastore, 1), (145, .iinc 6 1, 3), (148, .goto (-52), 3), (119, .iload 4, 2), (121, .aload_n 0, 1), (122, .getfield 161, 3), (125, .iload_n 2, 1), (126, .iconst 1, 1), (127, .isub, 1), (128, .iload 6, 2), (130, .isub, 1), (131, .invokestatic 183, 3), (134, .idiv, 1), (135, .aload_n 0, 1), (136, .getfield 161, 3), (139, .irem, 1), (140, .goto 4, 3), (73, .goto 123, 3), (41, .iconst 0, 1), (42, .goto 11, 3)] = true := by decide +kernel
theorem dX12_rows_113 : decode cX12_rows 113 = .ok (.iload 6, 2) := kDec_at dA201_cX12_rows 0 rfl
theorem dX12_rows_115 : decode cX12_rows 115 = .ok (.iload_n 2, 1) := kDec_at dA201_cX12_rows 1 rfl
theorem dX12_rows_116 : decode cX12_rows 116 = .ok (.if_icmp .ge 27, 3) := kDec_at dA201_cX12_rows 2 rfl
theorem dX12_rows_143 : decode cX12_rows 143 = .ok (.iconst (-1), 1) := kDec_at dA201_cX12_rows 3 rfl
theorem dX12_rows_144 : decode cX12_rows 144 = .ok (.iastore, 1) := kDec_at dA201_cX12_rows 4 rfl
theorem dX12_rows_145 : decode cX12_rows 145 = .ok (.iinc 6 1, 3) := kDec_at dA201_cX12_rows 5 rfl
theorem dX12_rows_148 : decode cX12_rows 148 = .ok (.goto (-52), 3) := kDec_at dA201_cX12_rows 6 rfl
theorem dX12_rows_119 : decode cX12_rows 119 = .ok (.iload 4, 2) := kDec_at dA201_cX12_rows 7 rfl
theorem dX12_rows_121 : decode cX12_rows 121 = .ok (.aload_n 0, 1) := kDec_at dA201_cX12_rows 8 rfl
theorem dX12_rows_122 : decode cX12_rows 122 = .ok (.getfield 161, 3) := kDec_at dA201_cX12_rows 9 rfl
theorem dX12_rows_125 : decode cX12_rows 125 = .ok (.iload_n 2, 1) := kDec_at dA201_cX12_rows 10 rfl
theorem dX12_rows_126 : decode cX12_rows 126 = .ok (.iconst 1, 1) := kDec_at dA201_cX12_rows 11 rfl
theorem dX12_rows_127 : decode cX12_rows 127 = .ok (.isub, 1) := kDec_at dA201_cX12_rows 12 rfl
theorem dX12_rows_128 : decode cX12_rows 128 = .ok (.iload 6, 2) := kDec_at dA201_cX12_rows 13 rfl
theorem dX12_rows_130 : decode cX12_rows 130 = .ok (.isub, 1) := kDec_at dA201_cX12_rows 14 rfl
theorem dX12_rows_131 : decode cX12_rows 131 = .ok (.invokestatic 183, 3) := kDec_at dA201_cX12_rows 15 rfl
theorem dX12_rows_134 : decode cX12_rows 134 = .ok (.idiv, 1) := kDec_at dA201_cX12_rows 16 rfl
theorem dX12_rows_135 : decode cX12_rows 135 = .ok (.aload_n 0, 1) := kDec_at dA201_cX12_rows 17 rfl
theorem dX12_rows_136 : decode cX12_rows 136 = .ok (.getfield 161, 3) := kDec_at dA201_cX12_rows 18 rfl
theorem dX12_rows_139 : decode cX12_rows 139 = .ok (.irem, 1) := kDec_at dA201_cX12_rows 19 rfl
theorem dX12_rows_140 : decode cX12_rows 140 = .ok (.goto 4, 3) := kDec_at dA201_cX12_rows 20 rfl
theorem dX12_rows_73 : decode cX12_rows 73 = .ok (.goto 123, 3) := kDec_at dA201_cX12_rows 21 rfl
theorem dX12_rows_41 : decode cX12_rows 41 = .ok (.iconst 0, 1) := kDec_at dA201_cX12_rows 22 rfl
theorem dX12_rows_42 : decode cX12_rows 42 = .ok (.goto 11, 3) := kDec_at dA201_cX12_rows 23 rfl
set_option maxRecDepth 100000 in
theorem dA202_cX12_row : kDec cX12_row [(0, .aload_n 0, 1), (1, .iconst 0, 1), (2, .putfield 85, 3), (5, .iload_n 1, 1), (6, .ifCond .lt 35, 3), (41, .iconst (-1), 1), (42, .ireturn, 1), (9, .iload_n 1, 1), (10, .aload_n 0, 1), (11, .getfield 180, 3), (14, .if_icmp .ge 27, 3), (17, .iload_n 2, 1), (18, .ifCond .lt 23, 3), (21, .iload_n 2, 1), (22, .bipush 6, 2), (24, .if_icmp .ge 17, 3), (27, .aload_n 0, 1), (28, .getfield 36, 3), (31, .bipush 6, 2), (33, .iload_n 1, 1), (34, .imul, 1), (35, .iload_n 2, 1), (36, .iadd, 1), (37, .iaload, 1)] = true := by decide +kernel
theorem dX12_row_0 : decode cX12_row 0 = .ok (.aload_n 0, 1) := kDec_at dA202_cX12_row 0 rfl
theorem dX12_row_1 : decode cX12_row 1 = .ok (.iconst 0, 1) := kDec_at dA202_cX12_row 1 rfl
theorem dX12_row_2 : decode cX12_row 2 = .ok (.putfield 85, 3) := kDec_at dA202_cX12_row 2 rfl
theorem dX12_row_5 : decode cX12_row 5 = .ok (.iload_n 1, 1) := kDec_at dA202_cX12_row 3 rfl
theorem dX12_row_6 : decode cX12_row 6 = .ok (.ifCond .lt 35, 3) := kDec_at dA202_cX12_row 4 rfl
theorem dX12_row_41 : decode cX12_row 41 = .ok (.iconst (-1), 1) := kDec_at dA202_cX12_row 5 rfl
theorem dX12_row_42 : decode cX12_row 42 = .ok (.ireturn, 1) := kDec_at dA202_cX12_row 6 rfl
theorem dX12_row_9 : decode cX12_row 9 = .ok (.iload_n 1, 1) := kDec_at dA202_cX12_row 7 rfl
theorem dX12_row_10 : decode cX12_row 10 = .ok (.aload_n 0, 1) := kDec_at dA202_cX12_row 8 rfl
theorem dX12_row_11 : decode cX12_row 11 = .ok (.getfield 180, 3) := kDec_at dA202_cX12_row 9 rfl
theorem dX12_row_14 : decode cX12_row 14 = .ok (.if_icmp .ge 27, 3) := kDec_at dA202_cX12_row 10 rfl
theorem dX12_row_17 : decode cX12_row 17 = .ok (.iload_n 2, 1) := kDec_at dA202_cX12_row 11 rfl
theorem dX12_row_18 : decode cX12_row 18 = .ok (.ifCond .lt 23, 3) := kDec_at dA202_cX12_row 12 rfl
theorem dX12_row_21 : decode cX12_row 21 = .ok (.iload_n 2, 1) := kDec_at dA202_cX12_row 13 rfl
theorem dX12_row_22 : decode cX12_row 22 = .ok (.bipush 6, 2) := kDec_at dA202_cX12_row 14 rfl
theorem dX12_row_24 : decode cX12_row 24 = .ok (.if_icmp .ge 17, 3) := kDec_at dA202_cX12_row 15 rfl
theorem dX12_row_27 : decode cX12_row 27 = .ok (.aload_n 0, 1) := kDec_at dA202_cX12_row 16 rfl
theorem dX12_row_28 : decode cX12_row 28 = .ok (.getfield 36, 3) := kDec_at dA202_cX12_row 17 rfl
theorem dX12_row_31 : decode cX12_row 31 = .ok (.bipush 6, 2) := kDec_at dA202_cX12_row 18 rfl
theorem dX12_row_33 : decode cX12_row 33 = .ok (.iload_n 1, 1) := kDec_at dA202_cX12_row 19 rfl
theorem dX12_row_34 : decode cX12_row 34 = .ok (.imul, 1) := kDec_at dA202_cX12_row 20 rfl
theorem dX12_row_35 : decode cX12_row 35 = .ok (.iload_n 2, 1) := kDec_at dA202_cX12_row 21 rfl
theorem dX12_row_36 : decode cX12_row 36 = .ok (.iadd, 1) := kDec_at dA202_cX12_row 22 rfl
theorem dX12_row_37 : decode cX12_row 37 = .ok (.iaload, 1) := kDec_at dA202_cX12_row 23 rfl
set_option maxRecDepth 100000 in
theorem dA203_cX12_row : kDec cX12_row [(38, .goto 4, 3)] = true := by decide +kernel
theorem dX12_row_38 : decode cX12_row 38 = .ok (.goto 4, 3) := kDec_at dA203_cX12_row 0 rfl
set_option maxRecDepth 100000 in
theorem dA204_cX12_isToldChoice : kDec cX12_isToldChoice [(0, .iload_n 1, 1), (1, .ifCond .lt 22, 3), (23, .iconst 0, 1), (24, .ireturn, 1), (4, .iload_n 1, 1), (5, .aload_n 0, 1), (6, .getfield 213, 3), (9, .if_icmp .ge 14, 3), (12, .iload_n 1, 1), (13, .sipush 200, 3), (16, .if_icmp .ge 7, 3), (19, .iconst 1, 1), (20, .goto 4, 3)] = true := by decide +kernel
theorem dX12_isToldChoice_0 : decode cX12_isToldChoice 0 = .ok (.iload_n 1, 1) := kDec_at dA204_cX12_isToldChoice 0 rfl
theorem dX12_isToldChoice_1 : decode cX12_isToldChoice 1 = .ok (.ifCond .lt 22, 3) := kDec_at dA204_cX12_isToldChoice 1 rfl
theorem dX12_isToldChoice_23 : decode cX12_isToldChoice 23 = .ok (.iconst 0, 1) := kDec_at dA204_cX12_isToldChoice 2 rfl
theorem dX12_isToldChoice_24 : decode cX12_isToldChoice 24 = .ok (.ireturn, 1) := kDec_at dA204_cX12_isToldChoice 3 rfl
theorem dX12_isToldChoice_4 : decode cX12_isToldChoice 4 = .ok (.iload_n 1, 1) := kDec_at dA204_cX12_isToldChoice 4 rfl
theorem dX12_isToldChoice_5 : decode cX12_isToldChoice 5 = .ok (.aload_n 0, 1) := kDec_at dA204_cX12_isToldChoice 5 rfl
theorem dX12_isToldChoice_6 : decode cX12_isToldChoice 6 = .ok (.getfield 213, 3) := kDec_at dA204_cX12_isToldChoice 6 rfl
theorem dX12_isToldChoice_9 : decode cX12_isToldChoice 9 = .ok (.if_icmp .ge 14, 3) := kDec_at dA204_cX12_isToldChoice 7 rfl
theorem dX12_isToldChoice_12 : decode cX12_isToldChoice 12 = .ok (.iload_n 1, 1) := kDec_at dA204_cX12_isToldChoice 8 rfl
theorem dX12_isToldChoice_13 : decode cX12_isToldChoice 13 = .ok (.sipush 200, 3) := kDec_at dA204_cX12_isToldChoice 9 rfl
theorem dX12_isToldChoice_16 : decode cX12_isToldChoice 16 = .ok (.if_icmp .ge 7, 3) := kDec_at dA204_cX12_isToldChoice 10 rfl
theorem dX12_isToldChoice_19 : decode cX12_isToldChoice 19 = .ok (.iconst 1, 1) := kDec_at dA204_cX12_isToldChoice 11 rfl
theorem dX12_isToldChoice_20 : decode cX12_isToldChoice 20 = .ok (.goto 4, 3) := kDec_at dA204_cX12_isToldChoice 12 rfl
set_option maxRecDepth 100000 in
theorem dA205_cX12_choice : kDec cX12_choice [(0, .aload_n 0, 1), (1, .iconst 0, 1), (2, .putfield 85, 3), (5, .aload_n 0, 1), (6, .iload_n 1, 1), (7, .invokevirtual 222, 3), (10, .ifCond .eq 25, 3), (35, .iconst (-1), 1), (36, .ireturn, 1), (13, .iload_n 2, 1), (14, .ifCond .lt 21, 3), (17, .iload_n 2, 1), (18, .iconst 4, 1), (19, .if_icmp .ge 16, 3), (22, .aload_n 0, 1), (23, .getfield 48, 3), (26, .iconst 4, 1), (27, .iload_n 1, 1), (28, .imul, 1), (29, .iload_n 2, 1), (30, .iadd, 1), (31, .iaload, 1), (32, .goto 4, 3)] = true := by decide +kernel
theorem dX12_choice_0 : decode cX12_choice 0 = .ok (.aload_n 0, 1) := kDec_at dA205_cX12_choice 0 rfl
theorem dX12_choice_1 : decode cX12_choice 1 = .ok (.iconst 0, 1) := kDec_at dA205_cX12_choice 1 rfl
theorem dX12_choice_2 : decode cX12_choice 2 = .ok (.putfield 85, 3) := kDec_at dA205_cX12_choice 2 rfl
theorem dX12_choice_5 : decode cX12_choice 5 = .ok (.aload_n 0, 1) := kDec_at dA205_cX12_choice 3 rfl
theorem dX12_choice_6 : decode cX12_choice 6 = .ok (.iload_n 1, 1) := kDec_at dA205_cX12_choice 4 rfl
theorem dX12_choice_7 : decode cX12_choice 7 = .ok (.invokevirtual 222, 3) := kDec_at dA205_cX12_choice 5 rfl
theorem dX12_choice_10 : decode cX12_choice 10 = .ok (.ifCond .eq 25, 3) := kDec_at dA205_cX12_choice 6 rfl
theorem dX12_choice_35 : decode cX12_choice 35 = .ok (.iconst (-1), 1) := kDec_at dA205_cX12_choice 7 rfl
theorem dX12_choice_36 : decode cX12_choice 36 = .ok (.ireturn, 1) := kDec_at dA205_cX12_choice 8 rfl
theorem dX12_choice_13 : decode cX12_choice 13 = .ok (.iload_n 2, 1) := kDec_at dA205_cX12_choice 9 rfl
theorem dX12_choice_14 : decode cX12_choice 14 = .ok (.ifCond .lt 21, 3) := kDec_at dA205_cX12_choice 10 rfl
theorem dX12_choice_17 : decode cX12_choice 17 = .ok (.iload_n 2, 1) := kDec_at dA205_cX12_choice 11 rfl
theorem dX12_choice_18 : decode cX12_choice 18 = .ok (.iconst 4, 1) := kDec_at dA205_cX12_choice 12 rfl
theorem dX12_choice_19 : decode cX12_choice 19 = .ok (.if_icmp .ge 16, 3) := kDec_at dA205_cX12_choice 13 rfl
theorem dX12_choice_22 : decode cX12_choice 22 = .ok (.aload_n 0, 1) := kDec_at dA205_cX12_choice 14 rfl
theorem dX12_choice_23 : decode cX12_choice 23 = .ok (.getfield 48, 3) := kDec_at dA205_cX12_choice 15 rfl
theorem dX12_choice_26 : decode cX12_choice 26 = .ok (.iconst 4, 1) := kDec_at dA205_cX12_choice 16 rfl
theorem dX12_choice_27 : decode cX12_choice 27 = .ok (.iload_n 1, 1) := kDec_at dA205_cX12_choice 17 rfl
theorem dX12_choice_28 : decode cX12_choice 28 = .ok (.imul, 1) := kDec_at dA205_cX12_choice 18 rfl
theorem dX12_choice_29 : decode cX12_choice 29 = .ok (.iload_n 2, 1) := kDec_at dA205_cX12_choice 19 rfl
theorem dX12_choice_30 : decode cX12_choice 30 = .ok (.iadd, 1) := kDec_at dA205_cX12_choice 20 rfl
theorem dX12_choice_31 : decode cX12_choice 31 = .ok (.iaload, 1) := kDec_at dA205_cX12_choice 21 rfl
theorem dX12_choice_32 : decode cX12_choice 32 = .ok (.goto 4, 3) := kDec_at dA205_cX12_choice 22 rfl
set_option maxRecDepth 20000 in
theorem ggX12_choice_X12_isToldChoice : GoodIn wsX12_choice wsX12_isToldChoice := goodIn_r _ [7, 8, 9, 10, 11, 12, 13, 14, 15, 16, 17, 18, 19, 20, 21, 22, 23, 24, 25, 26, 27, 28, 29, 30, 31, 32, 33, 34, 35, 36, 37, 38, 39, 40, 41, 42, 43, 44, 45, 46, 47, 48] rfl (by decide +kernel)
set_option maxRecDepth 20000 in
theorem gX12_choice_X12_isToldChoice : GoodIn wsX12_choice (wsV RX12 222 RX12 yX12_isToldChoice wsX12_isToldChoice) := goodIn_app (goodIn_r _ [3, 4, 5, 6] rfl (by decide +kernel)) ggX12_choice_X12_isToldChoice

end

/-! 56.ref -/
section
set_option maxHeartbeats 40000000 in
set_option maxRecDepth 100000 in
theorem y_rows (l : Launch) (dC : Nat → ClassId) (dI : Nat → Nat → Nat) (cI cS : ClassId) (sz : Nat) (oM : Nat) (mT : Nat) (mS : Nat) (mX : Nat) (mL : Nat) (mB : Nat) (mD : Nat) (m1 : Nat) (m2 : Nat) (mR : Nat) (x1 : Nat) (x2 : Nat) (x3 : Nat) (mH : Nat) (mY : Nat) (mE : Nat) (mW : Nat) (mO : Nat) (y1 : Nat) (y2 : Nat) (y3 : Nat) (y4 : Nat) (mZ : Nat) (zt : Int32) (zp : Int32) (zf : Int32) (zh : Int32) (zr : Int32) (zc : Int32) (zy : Int32) (za : Int32) (zb : Int32) (zs : Int32) (zq : Int32) (zw : Int32) (ze : Int32) (zn : Int32) (zm : Int32) (zl : Int32) (zk : Int32) (zd : Int32) (eY : Nat → Int32) (eB : Nat → Int32) (eL : Nat → Int32) (eE : Nat → Int32) (eW : Nat → Int32) (eO : Nat → Int32) (eS : Nat → Int32) (eX : Nat → Int32) (e1 : Nat → Int32) (e2 : Nat → Int32) (eR : Nat → Int32) (ec1 : Nat → Int32) (ec2 : Nat → Int32) (ec3 : Nat → Int32) (n : Int32) (g_zt : 0 ≤ zt.toInt ∧ zt.toInt ≤ 900) (g_zp : 0 ≤ zp.toInt ∧ zp.toInt ≤ 20) (g_zf : 0 ≤ zf.toInt ∧ zf.toInt ≤ 19) (g_zh : 0 ≤ zh.toInt ∧ zh.toInt ≤ 6) (g_zr : 0 ≤ zr.toInt ∧ zr.toInt ≤ 258) (g_zc : 0 ≤ zc.toInt ∧ zc.toInt ≤ 300) (g_zy : 0 ≤ zy.toInt ∧ zy.toInt ≤ 65536) (g_za : 0 ≤ za.toInt ∧ za.toInt ≤ 5) (g_zb : 0 ≤ zb.toInt ∧ zb.toInt ≤ 5) (g_zs : 0 ≤ zs.toInt ∧ zs.toInt ≤ 2000000) (g_zq : -1 ≤ zq.toInt ∧ zq.toInt ≤ 2000000) (g_zn : 0 ≤ zn.toInt ∧ zn.toInt ≤ 2600) (g_zm : 0 ≤ zm.toInt ∧ zm.toInt ≤ 2600) (g_zk : 0 ≤ zk.toInt ∧ zk.toInt ≤ 300) (g_eY : rg 0 255 eY) (g_eB : rg (-1) 255 eB) (g_eL : rg (-1) 65535 eL) (g_eE : rg 0 65535 eE) (g_eW : rg 0 65535 eW) (g_eO : rg 0 65535 eO) (g_eS : rg 0 300 eS) (g_eX : rg 0 65535 eX) (g_e1 : rg 0 5 e1) (g_e2 : rg 0 5 e2) (hzs : zs.toInt ≤ 1000000) : kMi l yX12_rows wsX12_rows ({ frames := 6, cells := 0, slots := 0, locals := 145 } : Room) [.ref oM, .int n] sz (dC, dI) vwCl [(cI, .int), (cS, .short)] [(oM, .inr (12, [.ref mT, .int zt, .ref mS, .ref mX, .int zp, .int zf, .ref mL, .ref mB, .ref mD, .ref m1, .ref m2, .int zh, .ref mR, .int zr, .ref x1, .ref x2, .ref x3, .int zc, .ref mH, .int zy, .int za, .int zb, .int zs, .int zq, .int zw, .int ze, .ref mY, .int zn, .ref mE, .int zm, .int zl, .ref mW, .int zk, .ref mO, .int zd, .ref y1, .ref y2, .ref y3, .ref y4, .ref mZ])), (mY, .inl (cI, 2600, .inl eY)), (mB, .inl (cS, 131072, .inl eB)), (mL, .inl (cI, 512, .inl eL)), (mE, .inl (cI, 2600, .inl eE)), (mW, .inl (cI, 300, .inl eW)), (mO, .inl (cI, 300, .inl eO)), (mS, .inl (cI, 21, .inl eS)), (mX, .inl (cI, 6300, .inl eX)), (m1, .inl (cI, 6, .inl e1)), (m2, .inl (cI, 6, .inl e2)), (mR, .inl (cI, 1548, .inl eR)), (x1, .inl (cI, 300, .inl ec1)), (x2, .inl (cI, 300, .inl ec2)), (x3, .inl (cI, 300, .inl ec3))] (fun _ => True) 0 0 (fun (A : Nat → Prop) (r : Int32) (hh9 : Heap) => ∃ (ze' : Int32) (zw' : Int32) (zr' : Int32) (eR' : Nat → Int32) (zn' : Int32) (eY' : Nat → Int32) (zd' : Int32) (zm' : Int32) (zl' : Int32) (eE' : Nat → Int32) (zk' : Int32) (eW' : Nat → Int32) (eO' : Nat → Int32), kPD (dC, dI) vwCl A [(oM, .inr (12, [.ref mT, .int zt, .ref mS, .ref mX, .int zp, .int zf, .ref mL, .ref mB, .ref mD, .ref m1, .ref m2, .int zh, .ref mR, .int zr', .ref x1, .ref x2, .ref x3, .int zc, .ref mH, .int zy, .int za, .int zb, .int zs, .int zq, .int zw', .int ze', .ref mY, .int zn', .ref mE, .int zm', .int zl', .ref mW, .int zk', .ref mO, .int zd', .ref y1, .ref y2, .ref y3, .ref y4, .ref mZ])), (mY, .inl (cI, 2600, .inl eY')), (mB, .inl (cS, 131072, .inl eB)), (mL, .inl (cI, 512, .inl eL)), (mE, .inl (cI, 2600, .inl eE')), (mW, .inl (cI, 300, .inl eW')), (mO, .inl (cI, 300, .inl eO')), (mS, .inl (cI, 21, .inl eS)), (mX, .inl (cI, 6300, .inl eX)), (m1, .inl (cI, 6, .inl e1)), (m2, .inl (cI, 6, .inl e2)), (mR, .inl (cI, 1548, .inl eR')), (x1, .inl (cI, 300, .inl ec1)), (x2, .inl (cI, 300, .inl ec2)), (x3, .inl (cI, 300, .inl ec3))] hh9 ∧ (0 ≤ zr'.toInt ∧ zr'.toInt ≤ 258) ∧ (0 ≤ zn'.toInt ∧ zn'.toInt ≤ 2600) ∧ (rg 0 255 eY') ∧ (0 ≤ zm'.toInt ∧ zm'.toInt ≤ 2600) ∧ (rg 0 65535 eE') ∧ (0 ≤ zk'.toInt ∧ zk'.toInt ≤ 300) ∧ (rg 0 65535 eW') ∧ (rg 0 65535 eO')) := by
  refine kMi_of (cc := cX12_rows) (maxL := 7) (ret := (some .int)) (lv := [(0, .ref oM), (1, .int n)]) (by decide +kernel) rfl rfl (Nat.le_of_ble_eq_true rfl) ?_
  intro p e s m below meth c A QQ ls hx hb hr hts hml hown hlocks hA hQQ hK hX hP hD hS hl
  have hown : s.vm.findClass RX12 = some m.cls := hown
  have hcf := k_cf hx hb hml hown hts
  have in_X12 : ∀ w ∈ wsX120, w ∈ wsX12_rows := fun _ h => List.mem_cons_of_mem _ (List.mem_append_right _ (h))
  replace g_zr := hid g_zr
  refine lv_aload_n hx hb dX12_rows_0 rfl (lv_at hl 0 rfl) ?_
  refine lv_iconst (v := 0) hx hb dX12_rows_1 (by decide) ?_
  refine va_put (D := (dC, dI)) (ci := 12) (v := .int 0) (ty := .int) (C := RX12) (T := TX12) (N := 40) hx hb hts in_X12 tyX12 tyX12_ok nmX12 hown hK hP hD hS 0 rfl rfl 25 (by decide) (hts (.fieldLink RX12 85 "TextMenderModel" "thrown" "I") (List.mem_of_getElem? (i := 1) rfl)) (fun _ h9 => h9) rfl (by decide +kernel) rfl rfl (Nat.le_of_ble_eq_true rfl) dX12_rows_2 (kW (wn := [(oM, .inr (12, [.ref mT, .int zt, .ref mS, .ref mX, .int zp, .int zf, .ref mL, .ref mB, .ref mD, .ref m1, .ref m2, .int zh, .ref mR, .int zr, .ref x1, .ref x2, .ref x3, .int zc, .ref mH, .int zy, .int za, .int zb, .int zs, .int zq, .int zw, .int 0, .ref mY, .int zn, .ref mE, .int zm, .int zl, .ref mW, .int zk, .ref mO, .int zd, .ref y1, .ref y2, .ref y3, .ref y4, .ref mZ])), (mY, .inl (cI, 2600, .inl eY)), (mB, .inl (cS, 131072, .inl eB)), (mL, .inl (cI, 512, .inl eL)), (mE, .inl (cI, 2600, .inl eE)), (mW, .inl (cI, 300, .inl eW)), (mO, .inl (cI, 300, .inl eO)), (mS, .inl (cI, 21, .inl eS)), (mX, .inl (cI, 6300, .inl eX)), (m1, .inl (cI, 6, .inl e1)), (m2, .inl (cI, 6, .inl e2)), (mR, .inl (cI, 1548, .inl eR)), (x1, .inl (cI, 300, .inl ec1)), (x2, .inl (cI, 300, .inl ec2)), (x3, .inl (cI, 300, .inl ec3))]) rfl (fun H locs hPn hDn hSn => ?_))
  clear hP hD hS
  have hP := hPn
  have hD := hDn
  have hS := hSn
  clear hPn hDn hSn
  refine lv_aload_n hx hb dX12_rows_5 rfl (lv_at hl 0 rfl) ?_
  refine lv_iconst (v := (-1)) hx hb dX12_rows_6 (by decide) ?_
  refine va_put (D := (dC, dI)) (ci := 12) (v := .int (-1)) (ty := .int) (C := RX12) (T := TX12) (N := 40) hx hb hts in_X12 tyX12 tyX12_ok nmX12 hown hK hP hD hS 0 rfl rfl 24 (by decide) (hts (.fieldLink RX12 55 "TextMenderModel" "where" "I") (List.mem_of_getElem? (i := 2) rfl)) (fun _ h9 => h9) rfl (by decide +kernel) rfl rfl (Nat.le_of_ble_eq_true rfl) dX12_rows_7 (kW (wn := [(oM, .inr (12, [.ref mT, .int zt, .ref mS, .ref mX, .int zp, .int zf, .ref mL, .ref mB, .ref mD, .ref m1, .ref m2, .int zh, .ref mR, .int zr, .ref x1, .ref x2, .ref x3, .int zc, .ref mH, .int zy, .int za, .int zb, .int zs, .int zq, .int (-1), .int 0, .ref mY, .int zn, .ref mE, .int zm, .int zl, .ref mW, .int zk, .ref mO, .int zd, .ref y1, .ref y2, .ref y3, .ref y4, .ref mZ])), (mY, .inl (cI, 2600, .inl eY)), (mB, .inl (cS, 131072, .inl eB)), (mL, .inl (cI, 512, .inl eL)), (mE, .inl (cI, 2600, .inl eE)), (mW, .inl (cI, 300, .inl eW)), (mO, .inl (cI, 300, .inl eO)), (mS, .inl (cI, 21, .inl eS)), (mX, .inl (cI, 6300, .inl eX)), (m1, .inl (cI, 6, .inl e1)), (m2, .inl (cI, 6, .inl e2)), (mR, .inl (cI, 1548, .inl eR)), (x1, .inl (cI, 300, .inl ec1)), (x2, .inl (cI, 300, .inl ec2)), (x3, .inl (cI, 300, .inl ec3))]) rfl (fun H locs hPn hDn hSn => ?_))
  clear hP hD hS
  have hP := hPn
  have hD := hDn
  have hS := hSn
  clear hPn hDn hSn
  refine lv_iload_n hx hb dX12_rows_10 rfl (lv_at hl 1 rfl) ?_
  refine lv_iconst (v := 1) hx hb dX12_rows_11 (by decide) ?_
  refine lv_icmp_lt (tgt := 20) hx hb dX12_rows_12 (by decide) (fun c_1 => ?_) (fun c_1 => ?_)
  · have tc_1 : n.toInt < 1 := v_lt c_1
    refine lv_iconst (v := (-1)) hx hb dX12_rows_20 (by decide) ?_
    exact kl_i (v := (-1)) hQQ hx hb hr hlocks hS dX12_rows_21 ⟨0, (-1), zr, eR, zn, eY, zd, zm, zl, eE, zk, eW, eO, ⟨hP, hD⟩, g_zr, g_zn, g_eY, g_zm, g_eE, g_zk, g_eW, g_eO⟩
  · have tc_1 : 1 ≤ n.toInt := v_nlt c_1
    refine lv_iload_n hx hb dX12_rows_15 rfl (lv_at hl 1 rfl) ?_
    refine lv_iconst (v := 3) hx hb dX12_rows_16 (by decide) ?_
    refine lv_icmp_le (tgt := 22) hx hb dX12_rows_17 (by decide) (fun c_2 => ?_) (fun c_2 => ?_)
    · have tc_2 : n.toInt ≤ 3 := v_le c_2
      refine lv_aload_n hx hb dX12_rows_22 rfl (lv_at hl 0 rfl) ?_
      refine lv_iconst (v := 0) hx hb dX12_rows_23 (by decide) ?_
      refine va_put (D := (dC, dI)) (ci := 12) (v := .int 0) (ty := .int) (C := RX12) (T := TX12) (N := 40) hx hb hts in_X12 tyX12 tyX12_ok nmX12 hown hK hP hD hS 0 rfl rfl 13 (by decide) (hts (.fieldLink RX12 180 "TextMenderModel" "rowMany" "I") (List.mem_of_getElem? (i := 3) rfl)) (fun _ h9 => h9) rfl (by decide +kernel) rfl rfl (Nat.le_of_ble_eq_true rfl) dX12_rows_24 (kW (wn := [(oM, .inr (12, [.ref mT, .int zt, .ref mS, .ref mX, .int zp, .int zf, .ref mL, .ref mB, .ref mD, .ref m1, .ref m2, .int zh, .ref mR, .int 0, .ref x1, .ref x2, .ref x3, .int zc, .ref mH, .int zy, .int za, .int zb, .int zs, .int zq, .int (-1), .int 0, .ref mY, .int zn, .ref mE, .int zm, .int zl, .ref mW, .int zk, .ref mO, .int zd, .ref y1, .ref y2, .ref y3, .ref y4, .ref mZ])), (mY, .inl (cI, 2600, .inl eY)), (mB, .inl (cS, 131072, .inl eB)), (mL, .inl (cI, 512, .inl eL)), (mE, .inl (cI, 2600, .inl eE)), (mW, .inl (cI, 300, .inl eW)), (mO, .inl (cI, 300, .inl eO)), (mS, .inl (cI, 21, .inl eS)), (mX, .inl (cI, 6300, .inl eX)), (m1, .inl (cI, 6, .inl e1)), (m2, .inl (cI, 6, .inl e2)), (mR, .inl (cI, 1548, .inl eR)), (x1, .inl (cI, 300, .inl ec1)), (x2, .inl (cI, 300, .inl ec2)), (x3, .inl (cI, 300, .inl ec3))]) rfl (fun H locs hPn hDn hSn => ?_))
      clear hP hD hS
      have hP := hPn
      have hD := hDn
      have hS := hSn
      clear hPn hDn hSn
      refine lv_iconst (v := 1) hx hb dX12_rows_27 (by decide) ?_
      refine lv_istore_n (lv' := [(2, .int 1), (0, .ref oM), (1, .int n)]) hx hb dX12_rows_28 rfl hl (by decide) rfl (fun ls hl => ?_)
      have LOOP_29 : ∀ (k_29 : Nat) (my : Int32) (zna : Int32) (zda : Int32) (zma : Int32) (zla : Int32) (zka : Int32) (zra : Int32) (eYa : Nat → Int32) (eEa : Nat → Int32) (eWa : Nat → Int32) (eOa : Nat → Int32) (eRa : Nat → Int32) (H : Heap) (locs : List Loc) (ls : Array Slot), MSd (4 - my.toInt : Int) k_29 → (1 ≤ my.toInt ∧ my.toInt ≤ 4) → (0 ≤ zna.toInt ∧ zna.toInt ≤ 2600) → (0 ≤ zma.toInt ∧ zma.toInt ≤ 2600) → (0 ≤ zka.toInt ∧ zka.toInt ≤ 300) → (0 ≤ zra.toInt ∧ zra.toInt ≤ 258) → (rg 0 255 eYa) → (rg 0 65535 eEa) → (rg 0 65535 eWa) → (rg 0 65535 eOa) → ((my.toInt = 1 ∧ zra.toInt = 0) ∨ (my.toInt = 2 ∧ zra.toInt ≤ 6) ∨ (my.toInt = 3 ∧ zra.toInt ≤ 42) ∨ (my.toInt = 4 ∧ zra.toInt ≤ 258)) → va_P (dC, dI) vwCl [(oM, .inr (12, [.ref mT, .int zt, .ref mS, .ref mX, .int zp, .int zf, .ref mL, .ref mB, .ref mD, .ref m1, .ref m2, .int zh, .ref mR, .int zra, .ref x1, .ref x2, .ref x3, .int zc, .ref mH, .int zy, .int za, .int zb, .int zs, .int zq, .int (-1), .int 0, .ref mY, .int zna, .ref mE, .int zma, .int zla, .ref mW, .int zka, .ref mO, .int zda, .ref y1, .ref y2, .ref y3, .ref y4, .ref mZ])), (mY, .inl (cI, 2600, .inl eYa)), (mB, .inl (cS, 131072, .inl eB)), (mL, .inl (cI, 512, .inl eL)), (mE, .inl (cI, 2600, .inl eEa)), (mW, .inl (cI, 300, .inl eWa)), (mO, .inl (cI, 300, .inl eOa)), (mS, .inl (cI, 21, .inl eS)), (mX, .inl (cI, 6300, .inl eX)), (m1, .inl (cI, 6, .inl e1)), (m2, .inl (cI, 6, .inl e2)), (mR, .inl (cI, 1548, .inl eRa)), (x1, .inl (cI, 300, .inl ec1)), (x2, .inl (cI, 300, .inl ec2)), (x3, .inl (cI, 300, .inl ec3))] H → va_D A [(oM, .inr (12, [.ref mT, .int zt, .ref mS, .ref mX, .int zp, .int zf, .ref mL, .ref mB, .ref mD, .ref m1, .ref m2, .int zh, .ref mR, .int zra, .ref x1, .ref x2, .ref x3, .int zc, .ref mH, .int zy, .int za, .int zb, .int zs, .int zq, .int (-1), .int 0, .ref mY, .int zna, .ref mE, .int zma, .int zla, .ref mW, .int zka, .ref mO, .int zda, .ref y1, .ref y2, .ref y3, .ref y4, .ref mZ])), (mY, .inl (cI, 2600, .inl eYa)), (mB, .inl (cS, 131072, .inl eB)), (mL, .inl (cI, 512, .inl eL)), (mE, .inl (cI, 2600, .inl eEa)), (mW, .inl (cI, 300, .inl eWa)), (mO, .inl (cI, 300, .inl eOa)), (mS, .inl (cI, 21, .inl eS)), (mX, .inl (cI, 6300, .inl eX)), (m1, .inl (cI, 6, .inl e1)), (m2, .inl (cI, 6, .inl e2)), (mR, .inl (cI, 1548, .inl eRa)), (x1, .inl (cI, 300, .inl ec1)), (x2, .inl (cI, 300, .inl ec2)), (x3, .inl (cI, 300, .inl ec3))] → va_S A s.heap H locs → lv_has ls 7 [(2, .int my), (0, .ref oM), (1, .int n)] → W p l e (headSpec wsX12_rows ({ frames := 6, cells := 0, slots := 0, locals := 145 } : Room)).room s m ([.ref oM, .int n] : List Value).toArray below meth c H locs 0 0 (MQ below QQ ([.ref oM, .int n] : List Value).toArray s 0 0 A) (F0 m 29 ls []) := by
        clear hP hD hS hl
        try (clear g_zn g_zm g_zk)
        intro k_29
        induction k_29 with
        | zero =>
          intro my zna zda zma zla zka zra eYa eEa eWa eOa eRa H locs ls hm_29 g_my g_zna g_zma g_zka g_zra g_eYa g_eEa g_eWa g_eOa hro hP hD hS hl
          exact ms_0 hm_29
        | succ k_29 ih_29 =>
          intro my zna zda zma zla zka zra eYa eEa eWa eOa eRa H locs ls hm_29 g_my g_zna g_zma g_zka g_zra g_eYa g_eEa g_eWa g_eOa hro hP hD hS hl
          refine lv_iload_n hx hb dX12_rows_29 rfl (lv_at hl 0 rfl) ?_
          refine lv_iload_n hx hb dX12_rows_30 rfl (lv_at hl 2 rfl) ?_
          refine lv_icmp_gt (tgt := 208) hx hb dX12_rows_31 (by decide) (fun c_3 => ?_) (fun c_3 => ?_)
          · have tc_3 : n.toInt < my.toInt := v_lt c_3
            refine lv_aload_n hx hb dX12_rows_208 rfl (lv_at hl 1 rfl) ?_
            refine va_get (D := (dC, dI)) (ci := 12) (v := .int zra) (C := RX12) (T := TX12) (N := 40) hx hb hts in_X12 hown hK hP 0 rfl rfl 13 (by decide) (hts (.fieldLink RX12 180 "TextMenderModel" "rowMany" "I") (List.mem_of_getElem? (i := 3) rfl)) (fun _ h9 => h9) rfl dX12_rows_209 ?_
            exact kl_i (v := zra) hQQ hx hb hr hlocks hS dX12_rows_212 ⟨0, (-1), zra, eRa, zna, eYa, zda, zma, zla, eEa, zka, eWa, eOa, ⟨hP, hD⟩, g_zra, g_zna, g_eYa, g_zma, g_eEa, g_zka, g_eWa, g_eOa⟩
          · have tc_3 : my.toInt ≤ n.toInt := v_nlt c_3
            refine lv_aload_n hx hb dX12_rows_34 rfl (lv_at hl 1 rfl) ?_
            refine va_get (D := (dC, dI)) (ci := 12) (v := .int zh) (C := RX12) (T := TX12) (N := 40) hx hb hts in_X12 hown hK hP 0 rfl rfl 11 (by decide) (hts (.fieldLink RX12 161 "TextMenderModel" "harms" "I") (List.mem_of_getElem? (i := 4) rfl)) (fun _ h9 => h9) rfl dX12_rows_35 ?_
            refine lv_if_ne (tgt := 45) hx hb dX12_rows_38 (by decide) (fun c_4 => ?_) (fun c_4 => ?_)
            · have tc_4 : ¬ zh.toInt = 0 := v_ne c_4
              refine lv_aload_n hx hb dX12_rows_45 rfl (lv_at hl 1 rfl) ?_
              refine va_get (D := (dC, dI)) (ci := 12) (v := .int zh) (C := RX12) (T := TX12) (N := 40) hx hb hts in_X12 hown hK hP 0 rfl rfl 11 (by decide) (hts (.fieldLink RX12 161 "TextMenderModel" "harms" "I") (List.mem_of_getElem? (i := 4) rfl)) (fun _ h9 => h9) rfl dX12_rows_46 ?_
              refine lv_iload_n hx hb dX12_rows_49 rfl (lv_at hl 0 rfl) ?_
              refine kS_i (rest := []) hcf (m_X12_power l dC dI cI cS H.size zh my (by omega) (by omega)) kc_X12_power gX12_rows_X12_power rfl rfl ⟨Nat.le_of_ble_eq_true rfl, Nat.le_of_ble_eq_true rfl⟩ kX_t hK hP hD hS hA [] [0, 1, 2, 3, 4, 5, 6, 7, 8, 9, 10, 11, 12, 13, 14] rfl (by decide +kernel) rfl hl rfl (Nat.le_of_ble_eq_true rfl) dX12_rows_50 ⟨Nat.le_of_ble_eq_true rfl, Nat.le_of_ble_eq_true rfl⟩ (fun r_5 H locs hB hJ hSn => ?_)
              obtain ⟨⟨hP1, hD1⟩, hf5_0, hf5_1⟩ := hB
              obtain ⟨hPn, hDn⟩ := hJ _ hP1 hD1 [(oM, .inr (12, [.ref mT, .int zt, .ref mS, .ref mX, .int zp, .int zf, .ref mL, .ref mB, .ref mD, .ref m1, .ref m2, .int zh, .ref mR, .int zra, .ref x1, .ref x2, .ref x3, .int zc, .ref mH, .int zy, .int za, .int zb, .int zs, .int zq, .int (-1), .int 0, .ref mY, .int zna, .ref mE, .int zma, .int zla, .ref mW, .int zka, .ref mO, .int zda, .ref y1, .ref y2, .ref y3, .ref y4, .ref mZ])), (mY, .inl (cI, 2600, .inl eYa)), (mB, .inl (cS, 131072, .inl eB)), (mL, .inl (cI, 512, .inl eL)), (mE, .inl (cI, 2600, .inl eEa)), (mW, .inl (cI, 300, .inl eWa)), (mO, .inl (cI, 300, .inl eOa)), (mS, .inl (cI, 21, .inl eS)), (mX, .inl (cI, 6300, .inl eX)), (m1, .inl (cI, 6, .inl e1)), (m2, .inl (cI, 6, .inl e2)), (mR, .inl (cI, 1548, .inl eRa)), (x1, .inl (cI, 300, .inl ec1)), (x2, .inl (cI, 300, .inl ec2)), (x3, .inl (cI, 300, .inl ec3))] rfl
              clear hP hD hS hJ hP1 hD1
              have hP := hPn
              have hD := hDn
              have hS := hSn
              clear hPn hDn hSn
              refine lv_istore_n (lv' := [(3, .int r_5), (2, .int my), (0, .ref oM), (1, .int n)]) hx hb dX12_rows_53 rfl hl (by decide) rfl (fun ls hl => ?_)
              refine lv_iconst (v := 0) hx hb dX12_rows_54 (by decide) ?_
              refine lv_istore (lv' := [(4, .int 0), (3, .int r_5), (2, .int my), (0, .ref oM), (1, .int n)]) hx hb dX12_rows_55 hl (by decide) rfl (fun ls hl => ?_)
              have LOOP_57 : ∀ (k_57 : Nat) (co : Int32) (znb : Int32) (zdb : Int32) (zmb : Int32) (zlb : Int32) (zkb : Int32) (zrb : Int32) (eYb : Nat → Int32) (eEb : Nat → Int32) (eWb : Nat → Int32) (eOb : Nat → Int32) (eRb : Nat → Int32) (H : Heap) (locs : List Loc) (ls : Array Slot), MSd (r_5.toInt - co.toInt : Int) k_57 → (0 ≤ co.toInt ∧ co.toInt ≤ r_5.toInt) → (0 ≤ znb.toInt ∧ znb.toInt ≤ 2600) → (0 ≤ zmb.toInt ∧ zmb.toInt ≤ 2600) → (0 ≤ zkb.toInt ∧ zkb.toInt ≤ 300) → (0 ≤ zrb.toInt ∧ zrb.toInt ≤ 258) → (rg 0 255 eYb) → (rg 0 65535 eEb) → (rg 0 65535 eWb) → (rg 0 65535 eOb) → ((my.toInt = 1 ∧ zrb.toInt ≤ co.toInt) ∨ (my.toInt = 2 ∧ zrb.toInt ≤ 6 + co.toInt) ∨ (my.toInt = 3 ∧ zrb.toInt ≤ 42 + co.toInt)) → va_P (dC, dI) vwCl [(oM, .inr (12, [.ref mT, .int zt, .ref mS, .ref mX, .int zp, .int zf, .ref mL, .ref mB, .ref mD, .ref m1, .ref m2, .int zh, .ref mR, .int zrb, .ref x1, .ref x2, .ref x3, .int zc, .ref mH, .int zy, .int za, .int zb, .int zs, .int zq, .int (-1), .int 0, .ref mY, .int znb, .ref mE, .int zmb, .int zlb, .ref mW, .int zkb, .ref mO, .int zdb, .ref y1, .ref y2, .ref y3, .ref y4, .ref mZ])), (mY, .inl (cI, 2600, .inl eYb)), (mB, .inl (cS, 131072, .inl eB)), (mL, .inl (cI, 512, .inl eL)), (mE, .inl (cI, 2600, .inl eEb)), (mW, .inl (cI, 300, .inl eWb)), (mO, .inl (cI, 300, .inl eOb)), (mS, .inl (cI, 21, .inl eS)), (mX, .inl (cI, 6300, .inl eX)), (m1, .inl (cI, 6, .inl e1)), (m2, .inl (cI, 6, .inl e2)), (mR, .inl (cI, 1548, .inl eRb)), (x1, .inl (cI, 300, .inl ec1)), (x2, .inl (cI, 300, .inl ec2)), (x3, .inl (cI, 300, .inl ec3))] H → va_D A [(oM, .inr (12, [.ref mT, .int zt, .ref mS, .ref mX, .int zp, .int zf, .ref mL, .ref mB, .ref mD, .ref m1, .ref m2, .int zh, .ref mR, .int zrb, .ref x1, .ref x2, .ref x3, .int zc, .ref mH, .int zy, .int za, .int zb, .int zs, .int zq, .int (-1), .int 0, .ref mY, .int znb, .ref mE, .int zmb, .int zlb, .ref mW, .int zkb, .ref mO, .int zdb, .ref y1, .ref y2, .ref y3, .ref y4, .ref mZ])), (mY, .inl (cI, 2600, .inl eYb)), (mB, .inl (cS, 131072, .inl eB)), (mL, .inl (cI, 512, .inl eL)), (mE, .inl (cI, 2600, .inl eEb)), (mW, .inl (cI, 300, .inl eWb)), (mO, .inl (cI, 300, .inl eOb)), (mS, .inl (cI, 21, .inl eS)), (mX, .inl (cI, 6300, .inl eX)), (m1, .inl (cI, 6, .inl e1)), (m2, .inl (cI, 6, .inl e2)), (mR, .inl (cI, 1548, .inl eRb)), (x1, .inl (cI, 300, .inl ec1)), (x2, .inl (cI, 300, .inl ec2)), (x3, .inl (cI, 300, .inl ec3))] → va_S A s.heap H locs → lv_has ls 7 [(4, .int co), (3, .int r_5), (2, .int my), (0, .ref oM), (1, .int n)] → W p l e (headSpec wsX12_rows ({ frames := 6, cells := 0, slots := 0, locals := 145 } : Room)).room s m ([.ref oM, .int n] : List Value).toArray below meth c H locs 0 0 (MQ below QQ ([.ref oM, .int n] : List Value).toArray s 0 0 A) (F0 m 57 ls []) := by
                clear hP hD hS hl
                try (clear g_zna g_zma g_zka g_zn g_zm g_zk)
                intro k_57
                induction k_57 with
                | zero =>
                  intro co znb zdb zmb zlb zkb zrb eYb eEb eWb eOb eRb H locs ls hm_57 g_co g_znb g_zmb g_zkb g_zrb g_eYb g_eEb g_eWb g_eOb hco hP hD hS hl
                  exact ms_0 hm_57
                | succ k_57 ih_57 =>
                  intro co znb zdb zmb zlb zkb zrb eYb eEb eWb eOb eRb H locs ls hm_57 g_co g_znb g_zmb g_zkb g_zrb g_eYb g_eEb g_eWb g_eOb hco hP hD hS hl
                  refine lv_iload hx hb dX12_rows_57 (lv_at hl 0 rfl) ?_
                  refine lv_iload_n hx hb dX12_rows_59 rfl (lv_at hl 1 rfl) ?_
                  refine lv_icmp_ge (tgt := 202) hx hb dX12_rows_60 (by decide) (fun c_6 => ?_) (fun c_6 => ?_)
                  · have tc_6 : r_5.toInt ≤ co.toInt := v_le c_6
                    obtain ⟨x_7, ex_7⟩ : ∃ y : Int32, y = my + 1 := ⟨_, rfl⟩
                    have tx_7 : x_7.toInt = my.toInt + 1 := v_addR (l2 := 1) (h2 := 1) ex_7 g_my (by decide) (by decide) (by decide)
                    refine lv_iinc (v := x_7) (lv' := [(2, .int x_7), (4, .int co), (3, .int r_5), (0, .ref oM), (1, .int n)]) hx hb dX12_rows_202 hl (k := 2) rfl (by rw [ex_7]; rfl) (by decide) rfl (fun ls hl => ?_)
                    refine lv_goto (tgt := 29) hx hb dX12_rows_205 (by decide) ?_
                    exact ih_29 x_7 znb zdb zmb zlb zkb zrb eYb eEb eWb eOb eRb _ _ _ (ms_lt hm_29 (by show ((4 - x_7.toInt : Int)) < 4 - my.toInt; omega) (by show (0 : Int) < 4 - my.toInt; omega)) (by show 1 ≤ x_7.toInt ∧ x_7.toInt ≤ 4; omega) (g_znb) (g_zmb) (g_zkb) (g_zrb) (g_eYb) (g_eEb) (g_eWb) (g_eOb) (by show (x_7.toInt = 1 ∧ zrb.toInt = 0) ∨ (x_7.toInt = 2 ∧ zrb.toInt ≤ 6) ∨ (x_7.toInt = 3 ∧ zrb.toInt ≤ 42) ∨ (x_7.toInt = 4 ∧ zrb.toInt ≤ 258); omega) hP hD hS (lv_sub hl [0, 3, 4] rfl)
                  · have tc_6 : co.toInt < r_5.toInt := v_nle c_6
                    refine lv_aload_n hx hb dX12_rows_63 rfl (lv_at hl 3 rfl) ?_
                    refine lv_iload hx hb dX12_rows_64 (lv_at hl 0 rfl) ?_
                    refine lv_iload_n hx hb dX12_rows_66 rfl (lv_at hl 2 rfl) ?_
                    refine kV_i (rest := []) (q0 := 0) (ci := 12) hcf (m_X12_makes l dC dI cI cS H.size oM mT mS mX mL mB mD m1 m2 mR x1 x2 x3 mH mY mE mW mO y1 y2 y3 y4 mZ zt zp zf zh zrb zc zy za zb zs zq (-1) 0 znb zmb zlb zkb zdb eYb eB eL eEb eWb eOb eS eX e1 e2 co my (g_zt) (g_zp) (g_zf) (g_zh) (g_zrb) (g_zc) (g_zy) (g_za) (g_zb) (g_zs) (g_zq) (g_znb) (g_zmb) (g_zkb) (g_eYb) (g_eB) (g_eL) (g_eEb) (g_eWb) (g_eOb) (g_eS) (g_eX) (g_e1) (g_e2) (by omega) (by omega) (by omega)) kc_X12_makes gX12_rows_X12_makes rfl rfl rfl ⟨Nat.le_of_ble_eq_true rfl, Nat.le_of_ble_eq_true rfl⟩ kX_t hK hP hD hS hA [0, 1, 2, 3, 4, 5, 6, 7, 8, 9, 10] [11, 12, 13, 14] rfl (by decide +kernel) rfl rfl rfl hl rfl (Nat.le_of_ble_eq_true rfl) dX12_rows_67 ⟨Nat.le_of_ble_eq_true rfl, Nat.le_of_ble_eq_true rfl⟩ (fun r_8 H locs hB hJ hSn => ?_)
                    obtain ⟨zn_8, eY_8, zd_8, zm_8, zl_8, eE_8, zk_8, eW_8, eO_8, ⟨hP1, hD1⟩, hf8_0, hf8_1, hf8_2, hf8_3, hf8_4, hf8_5, hf8_6, hf8_7⟩ := hB
                    obtain ⟨hPn, hDn⟩ := hJ _ hP1 hD1 [(mR, .inl (cI, 1548, .inl eRb)), (x1, .inl (cI, 300, .inl ec1)), (x2, .inl (cI, 300, .inl ec2)), (x3, .inl (cI, 300, .inl ec3)), (oM, .inr (12, [.ref mT, .int zt, .ref mS, .ref mX, .int zp, .int zf, .ref mL, .ref mB, .ref mD, .ref m1, .ref m2, .int zh, .ref mR, .int zrb, .ref x1, .ref x2, .ref x3, .int zc, .ref mH, .int zy, .int za, .int zb, .int zs, .int zq, .int (-1), .int 0, .ref mY, .int zn_8, .ref mE, .int zm_8, .int zl_8, .ref mW, .int zk_8, .ref mO, .int zd_8, .ref y1, .ref y2, .ref y3, .ref y4, .ref mZ])), (mY, .inl (cI, 2600, .inl eY_8)), (mB, .inl (cS, 131072, .inl eB)), (mL, .inl (cI, 512, .inl eL)), (mE, .inl (cI, 2600, .inl eE_8)), (mW, .inl (cI, 300, .inl eW_8)), (mO, .inl (cI, 300, .inl eO_8)), (mS, .inl (cI, 21, .inl eS)), (mX, .inl (cI, 6300, .inl eX)), (m1, .inl (cI, 6, .inl e1)), (m2, .inl (cI, 6, .inl e2))] rfl
                    clear hP hD hS hJ hP1 hD1
                    have hP := hPn
                    have hD := hDn
                    have hS := hSn
                    clear hPn hDn hSn
                    refine lv_if_ne (tgt := 76) hx hb dX12_rows_70 (by decide) (fun c_9 => ?_) (fun c_9 => ?_)
                    · have tc_9 : ¬ r_8.toInt = 0 := v_ne c_9
                      refine lv_bipush (v := 6) hx hb dX12_rows_76 (by decide) ?_
                      refine lv_aload_n hx hb dX12_rows_78 rfl (lv_at hl 3 rfl) ?_
                      refine va_get (D := (dC, dI)) (ci := 12) (v := .int zrb) (C := RX12) (T := TX12) (N := 40) hx hb hts in_X12 hown hK hP 4 rfl rfl 13 (by decide) (hts (.fieldLink RX12 180 "TextMenderModel" "rowMany" "I") (List.mem_of_getElem? (i := 3) rfl)) (fun _ h9 => h9) rfl dX12_rows_79 ?_
                      refine lv_imul hx hb dX12_rows_82 ?_
                      refine lv_topi (fun x_10 ex_10 => ?_)
                      have tx_10 : x_10.toInt = 6 * zrb.toInt := v_mul ex_10 (by show -2147483648 ≤ 6 * zrb.toInt; omega) (by show 6 * zrb.toInt < 2147483648; omega)
                      refine lv_istore (lv' := [(5, .int x_10), (4, .int co), (3, .int r_5), (2, .int my), (0, .ref oM), (1, .int n)]) hx hb dX12_rows_83 hl (by decide) rfl (fun ls hl => ?_)
                      refine lv_aload_n hx hb dX12_rows_85 rfl (lv_at hl 4 rfl) ?_
                      refine va_get (D := (dC, dI)) (ci := 12) (v := .ref mR) (C := RX12) (T := TX12) (N := 40) hx hb hts in_X12 hown hK hP 4 rfl rfl 12 (by decide) (hts (.fieldLink RX12 36 "TextMenderModel" "rows" "[I") (List.mem_of_getElem? (i := 5) rfl)) (fun _ h9 => h9) rfl dX12_rows_86 ?_
                      refine lv_iload hx hb dX12_rows_89 (lv_at hl 0 rfl) ?_
                      refine lv_iload_n hx hb dX12_rows_91 rfl (lv_at hl 3 rfl) ?_
                      obtain ⟨f_11, ef_11⟩ : ∃ g : Nat → Int32, g = upd eRb (x_10 : Int32).toNatClampNeg my := ⟨_, rfl⟩
                      refine va_iast hx hb hK hP hD hS 0 0 rfl rfl (v_in (by omega)) dX12_rows_92 (kWf (g := f_11) (F := fun f_11 => [(mR, .inl (cI, 1548, .inl f_11)), (x1, .inl (cI, 300, .inl ec1)), (x2, .inl (cI, 300, .inl ec2)), (x3, .inl (cI, 300, .inl ec3)), (oM, .inr (12, [.ref mT, .int zt, .ref mS, .ref mX, .int zp, .int zf, .ref mL, .ref mB, .ref mD, .ref m1, .ref m2, .int zh, .ref mR, .int zrb, .ref x1, .ref x2, .ref x3, .int zc, .ref mH, .int zy, .int za, .int zb, .int zs, .int zq, .int (-1), .int 0, .ref mY, .int zn_8, .ref mE, .int zm_8, .int zl_8, .ref mW, .int zk_8, .ref mO, .int zd_8, .ref y1, .ref y2, .ref y3, .ref y4, .ref mZ])), (mY, .inl (cI, 2600, .inl eY_8)), (mB, .inl (cS, 131072, .inl eB)), (mL, .inl (cI, 512, .inl eL)), (mE, .inl (cI, 2600, .inl eE_8)), (mW, .inl (cI, 300, .inl eW_8)), (mO, .inl (cI, 300, .inl eO_8)), (mS, .inl (cI, 21, .inl eS)), (mX, .inl (cI, 6300, .inl eX)), (m1, .inl (cI, 6, .inl e1)), (m2, .inl (cI, 6, .inl e2))]) ef_11 rfl (fun H locs hPn hDn hSn => ?_))
                      clear hP hD hS
                      have hP := hPn
                      have hD := hDn
                      have hS := hSn
                      clear hPn hDn hSn
                      refine lv_iconst (v := 0) hx hb dX12_rows_93 (by decide) ?_
                      refine lv_istore (lv' := [(6, .int 0), (5, .int x_10), (4, .int co), (3, .int r_5), (2, .int my), (0, .ref oM), (1, .int n)]) hx hb dX12_rows_94 hl (by decide) rfl (fun ls hl => ?_)
                      have LOOP_96 : ∀ (k_96 : Nat) (k : Int32) (eRc : Nat → Int32) (H : Heap) (locs : List Loc) (ls : Array Slot), MSd (3 - k.toInt : Int) k_96 → (0 ≤ k.toInt ∧ k.toInt ≤ 3) → va_P (dC, dI) vwCl [(mR, .inl (cI, 1548, .inl eRc)), (x1, .inl (cI, 300, .inl ec1)), (x2, .inl (cI, 300, .inl ec2)), (x3, .inl (cI, 300, .inl ec3)), (oM, .inr (12, [.ref mT, .int zt, .ref mS, .ref mX, .int zp, .int zf, .ref mL, .ref mB, .ref mD, .ref m1, .ref m2, .int zh, .ref mR, .int zrb, .ref x1, .ref x2, .ref x3, .int zc, .ref mH, .int zy, .int za, .int zb, .int zs, .int zq, .int (-1), .int 0, .ref mY, .int zn_8, .ref mE, .int zm_8, .int zl_8, .ref mW, .int zk_8, .ref mO, .int zd_8, .ref y1, .ref y2, .ref y3, .ref y4, .ref mZ])), (mY, .inl (cI, 2600, .inl eY_8)), (mB, .inl (cS, 131072, .inl eB)), (mL, .inl (cI, 512, .inl eL)), (mE, .inl (cI, 2600, .inl eE_8)), (mW, .inl (cI, 300, .inl eW_8)), (mO, .inl (cI, 300, .inl eO_8)), (mS, .inl (cI, 21, .inl eS)), (mX, .inl (cI, 6300, .inl eX)), (m1, .inl (cI, 6, .inl e1)), (m2, .inl (cI, 6, .inl e2))] H → va_D A [(mR, .inl (cI, 1548, .inl eRc)), (x1, .inl (cI, 300, .inl ec1)), (x2, .inl (cI, 300, .inl ec2)), (x3, .inl (cI, 300, .inl ec3)), (oM, .inr (12, [.ref mT, .int zt, .ref mS, .ref mX, .int zp, .int zf, .ref mL, .ref mB, .ref mD, .ref m1, .ref m2, .int zh, .ref mR, .int zrb, .ref x1, .ref x2, .ref x3, .int zc, .ref mH, .int zy, .int za, .int zb, .int zs, .int zq, .int (-1), .int 0, .ref mY, .int zn_8, .ref mE, .int zm_8, .int zl_8, .ref mW, .int zk_8, .ref mO, .int zd_8, .ref y1, .ref y2, .ref y3, .ref y4, .ref mZ])), (mY, .inl (cI, 2600, .inl eY_8)), (mB, .inl (cS, 131072, .inl eB)), (mL, .inl (cI, 512, .inl eL)), (mE, .inl (cI, 2600, .inl eE_8)), (mW, .inl (cI, 300, .inl eW_8)), (mO, .inl (cI, 300, .inl eO_8)), (mS, .inl (cI, 21, .inl eS)), (mX, .inl (cI, 6300, .inl eX)), (m1, .inl (cI, 6, .inl e1)), (m2, .inl (cI, 6, .inl e2))] → va_S A s.heap H locs → lv_has ls 7 [(6, .int k), (5, .int x_10), (4, .int co), (3, .int r_5), (2, .int my), (0, .ref oM), (1, .int n)] → W p l e (headSpec wsX12_rows ({ frames := 6, cells := 0, slots := 0, locals := 145 } : Room)).room s m ([.ref oM, .int n] : List Value).toArray below meth c H locs 0 0 (MQ below QQ ([.ref oM, .int n] : List Value).toArray s 0 0 A) (F0 m 96 ls []) := by
                        clear hP hD hS hl
                        try (clear tc_9 hf8_7 g_znb g_zmb g_zkb g_zna g_zma g_zka g_zn g_zm g_zk)
                        intro k_96
                        induction k_96 with
                        | zero =>
                          intro k eRc H locs ls hm_96 g_k hP hD hS hl
                          exact ms_0 hm_96
                        | succ k_96 ih_96 =>
                          intro k eRc H locs ls hm_96 g_k hP hD hS hl
                          refine lv_iload hx hb dX12_rows_96 (lv_at hl 0 rfl) ?_
                          refine lv_iconst (v := 3) hx hb dX12_rows_98 (by decide) ?_
                          refine lv_icmp_ge (tgt := 151) hx hb dX12_rows_99 (by decide) (fun c_12 => ?_) (fun c_12 => ?_)
                          · have tc_12 : 3 ≤ k.toInt := v_le c_12
                            refine lv_aload_n hx hb dX12_rows_151 rfl (lv_at hl 5 rfl) ?_
                            refine va_get (D := (dC, dI)) (ci := 12) (v := .ref mR) (C := RX12) (T := TX12) (N := 40) hx hb hts in_X12 hown hK hP 4 rfl rfl 12 (by decide) (hts (.fieldLink RX12 36 "TextMenderModel" "rows" "[I") (List.mem_of_getElem? (i := 5) rfl)) (fun _ h9 => h9) rfl dX12_rows_152 ?_
                            refine lv_iload hx hb dX12_rows_155 (lv_at hl 1 rfl) ?_
                            refine lv_iconst (v := 4) hx hb dX12_rows_157 (by decide) ?_
                            refine lv_iadd hx hb dX12_rows_158 ?_
                            refine lv_topi (fun x_13 ex_13 => ?_)
                            have tx_13 : x_13.toInt = x_10.toInt + 4 := v_add ex_13 (by show -2147483648 ≤ x_10.toInt + 4; omega) (by show x_10.toInt + 4 < 2147483648; omega)
                            refine lv_aload_n hx hb dX12_rows_159 rfl (lv_at hl 5 rfl) ?_
                            refine lv_aload_n hx hb dX12_rows_160 rfl (lv_at hl 5 rfl) ?_
                            refine va_get (D := (dC, dI)) (ci := 12) (v := .ref mW) (C := RX12) (T := TX12) (N := 40) hx hb hts in_X12 hown hK hP 4 rfl rfl 31 (by decide) (hts (.fieldLink RX12 64 "TextMenderModel" "work" "[I") (List.mem_of_getElem? (i := 6) rfl)) (fun _ h9 => h9) rfl dX12_rows_161 ?_
                            refine lv_iconst (v := 0) hx hb dX12_rows_164 (by decide) ?_
                            refine lv_aload_n hx hb dX12_rows_165 rfl (lv_at hl 5 rfl) ?_
                            refine va_get (D := (dC, dI)) (ci := 12) (v := .int zk_8) (C := RX12) (T := TX12) (N := 40) hx hb hts in_X12 hown hK hP 4 rfl rfl 32 (by decide) (hts (.fieldLink RX12 135 "TextMenderModel" "workMany" "I") (List.mem_of_getElem? (i := 7) rfl)) (fun _ h9 => h9) rfl dX12_rows_166 ?_
                            refine kV_i (rest := [.int x_13, .ref mR]) (q0 := 0) (ci := 12) hcf (m_X12_costOf_ l dC dI cI cS H.size oM mW mT mS mX mL mB mD m1 m2 mR x1 x2 x3 mH mY mE mW mO y1 y2 y3 y4 mZ 300 zt zp zf zh zrb zc zy za zb zs zq (-1) 0 zn_8 zm_8 zl_8 zk_8 zd_8 ec1 ec2 ec3 eW_8 0 zk_8 (g_zt) (g_zp) (g_zf) (g_zh) (g_zrb) (g_zc) (g_zy) (g_za) (g_zb) (g_zs) (g_zq) (hf8_0) (hf8_2) (hf8_4) (by decide) (hf8_4) (by omega) (by omega)) kc_X12_costOf_ gX12_rows_X12_costOf_ rfl rfl rfl ⟨Nat.le_of_ble_eq_true rfl, Nat.le_of_ble_eq_true rfl⟩ kX_t hK hP hD hS hA [4, 1, 2, 3, 9] [0, 5, 6, 7, 8, 10, 11, 12, 13, 14] rfl (by decide +kernel) rfl rfl rfl hl rfl (Nat.le_of_ble_eq_true rfl) dX12_rows_169 ⟨Nat.le_of_ble_eq_true rfl, Nat.le_of_ble_eq_true rfl⟩ (fun r_14 H locs hB hJ hSn => ?_)
                            obtain ⟨hP1, hD1⟩ := hB
                            obtain ⟨hPn, hDn⟩ := hJ _ hP1 hD1 [(mR, .inl (cI, 1548, .inl eRc)), (mY, .inl (cI, 2600, .inl eY_8)), (mB, .inl (cS, 131072, .inl eB)), (mL, .inl (cI, 512, .inl eL)), (mE, .inl (cI, 2600, .inl eE_8)), (mO, .inl (cI, 300, .inl eO_8)), (mS, .inl (cI, 21, .inl eS)), (mX, .inl (cI, 6300, .inl eX)), (m1, .inl (cI, 6, .inl e1)), (m2, .inl (cI, 6, .inl e2)), (oM, .inr (12, [.ref mT, .int zt, .ref mS, .ref mX, .int zp, .int zf, .ref mL, .ref mB, .ref mD, .ref m1, .ref m2, .int zh, .ref mR, .int zrb, .ref x1, .ref x2, .ref x3, .int zc, .ref mH, .int zy, .int za, .int zb, .int zs, .int zq, .int (-1), .int 0, .ref mY, .int zn_8, .ref mE, .int zm_8, .int zl_8, .ref mW, .int zk_8, .ref mO, .int zd_8, .ref y1, .ref y2, .ref y3, .ref y4, .ref mZ])), (x1, .inl (cI, 300, .inl ec1)), (x2, .inl (cI, 300, .inl ec2)), (x3, .inl (cI, 300, .inl ec3)), (mW, .inl (cI, 300, .inl eW_8))] rfl
                            clear hP hD hS hJ hP1 hD1
                            have hP := hPn
                            have hD := hDn
                            have hS := hSn
                            clear hPn hDn hSn
                            obtain ⟨f_15, ef_15⟩ : ∃ g : Nat → Int32, g = upd eRc (x_13 : Int32).toNatClampNeg r_14 := ⟨_, rfl⟩
                            refine va_iast hx hb hK hP hD hS 0 0 rfl rfl (v_in (by omega)) dX12_rows_172 (kWf (g := f_15) (F := fun f_15 => [(mR, .inl (cI, 1548, .inl f_15)), (mY, .inl (cI, 2600, .inl eY_8)), (mB, .inl (cS, 131072, .inl eB)), (mL, .inl (cI, 512, .inl eL)), (mE, .inl (cI, 2600, .inl eE_8)), (mO, .inl (cI, 300, .inl eO_8)), (mS, .inl (cI, 21, .inl eS)), (mX, .inl (cI, 6300, .inl eX)), (m1, .inl (cI, 6, .inl e1)), (m2, .inl (cI, 6, .inl e2)), (oM, .inr (12, [.ref mT, .int zt, .ref mS, .ref mX, .int zp, .int zf, .ref mL, .ref mB, .ref mD, .ref m1, .ref m2, .int zh, .ref mR, .int zrb, .ref x1, .ref x2, .ref x3, .int zc, .ref mH, .int zy, .int za, .int zb, .int zs, .int zq, .int (-1), .int 0, .ref mY, .int zn_8, .ref mE, .int zm_8, .int zl_8, .ref mW, .int zk_8, .ref mO, .int zd_8, .ref y1, .ref y2, .ref y3, .ref y4, .ref mZ])), (x1, .inl (cI, 300, .inl ec1)), (x2, .inl (cI, 300, .inl ec2)), (x3, .inl (cI, 300, .inl ec3)), (mW, .inl (cI, 300, .inl eW_8))]) ef_15 rfl (fun H locs hPn hDn hSn => ?_))
                            clear hP hD hS
                            have hP := hPn
                            have hD := hDn
                            have hS := hSn
                            clear hPn hDn hSn
                            refine lv_aload_n hx hb dX12_rows_173 rfl (lv_at hl 5 rfl) ?_
                            refine va_get (D := (dC, dI)) (ci := 12) (v := .ref mR) (C := RX12) (T := TX12) (N := 40) hx hb hts in_X12 hown hK hP 10 rfl rfl 12 (by decide) (hts (.fieldLink RX12 36 "TextMenderModel" "rows" "[I") (List.mem_of_getElem? (i := 5) rfl)) (fun _ h9 => h9) rfl dX12_rows_174 ?_
                            refine lv_iload hx hb dX12_rows_177 (lv_at hl 1 rfl) ?_
                            refine lv_iconst (v := 5) hx hb dX12_rows_179 (by decide) ?_
                            refine lv_iadd hx hb dX12_rows_180 ?_
                            refine lv_topi (fun x_16 ex_16 => ?_)
                            have tx_16 : x_16.toInt = x_10.toInt + 5 := v_add ex_16 (by show -2147483648 ≤ x_10.toInt + 5; omega) (by show x_10.toInt + 5 < 2147483648; omega)
                            refine lv_aload_n hx hb dX12_rows_181 rfl (lv_at hl 5 rfl) ?_
                            refine va_get (D := (dC, dI)) (ci := 12) (v := .int zk_8) (C := RX12) (T := TX12) (N := 40) hx hb hts in_X12 hown hK hP 10 rfl rfl 32 (by decide) (hts (.fieldLink RX12 135 "TextMenderModel" "workMany" "I") (List.mem_of_getElem? (i := 7) rfl)) (fun _ h9 => h9) rfl dX12_rows_182 ?_
                            obtain ⟨f_17, ef_17⟩ : ∃ g : Nat → Int32, g = upd f_15 (x_16 : Int32).toNatClampNeg zk_8 := ⟨_, rfl⟩
                            refine va_iast hx hb hK hP hD hS 0 0 rfl rfl (v_in (by omega)) dX12_rows_185 (kWf (g := f_17) (F := fun f_17 => [(mR, .inl (cI, 1548, .inl f_17)), (mY, .inl (cI, 2600, .inl eY_8)), (mB, .inl (cS, 131072, .inl eB)), (mL, .inl (cI, 512, .inl eL)), (mE, .inl (cI, 2600, .inl eE_8)), (mO, .inl (cI, 300, .inl eO_8)), (mS, .inl (cI, 21, .inl eS)), (mX, .inl (cI, 6300, .inl eX)), (m1, .inl (cI, 6, .inl e1)), (m2, .inl (cI, 6, .inl e2)), (oM, .inr (12, [.ref mT, .int zt, .ref mS, .ref mX, .int zp, .int zf, .ref mL, .ref mB, .ref mD, .ref m1, .ref m2, .int zh, .ref mR, .int zrb, .ref x1, .ref x2, .ref x3, .int zc, .ref mH, .int zy, .int za, .int zb, .int zs, .int zq, .int (-1), .int 0, .ref mY, .int zn_8, .ref mE, .int zm_8, .int zl_8, .ref mW, .int zk_8, .ref mO, .int zd_8, .ref y1, .ref y2, .ref y3, .ref y4, .ref mZ])), (x1, .inl (cI, 300, .inl ec1)), (x2, .inl (cI, 300, .inl ec2)), (x3, .inl (cI, 300, .inl ec3)), (mW, .inl (cI, 300, .inl eW_8))]) ef_17 rfl (fun H locs hPn hDn hSn => ?_))
                            clear hP hD hS
                            have hP := hPn
                            have hD := hDn
                            have hS := hSn
                            clear hPn hDn hSn
                            refine lv_aload_n hx hb dX12_rows_186 rfl (lv_at hl 5 rfl) ?_
                            refine lv_dup hx hb dX12_rows_187 rfl ?_
                            refine va_get (D := (dC, dI)) (ci := 12) (v := .int zrb) (C := RX12) (T := TX12) (N := 40) hx hb hts in_X12 hown hK hP 10 rfl rfl 13 (by decide) (hts (.fieldLink RX12 180 "TextMenderModel" "rowMany" "I") (List.mem_of_getElem? (i := 3) rfl)) (fun _ h9 => h9) rfl dX12_rows_188 ?_
                            refine lv_iconst (v := 1) hx hb dX12_rows_191 (by decide) ?_
                            refine lv_iadd hx hb dX12_rows_192 ?_
                            refine lv_topi (fun x_18 ex_18 => ?_)
                            have tx_18 : x_18.toInt = zrb.toInt + 1 := v_addR (l2 := 1) (h2 := 1) ex_18 g_zrb (by decide) (by decide) (by decide)
                            refine va_put (D := (dC, dI)) (ci := 12) (v := .int x_18) (ty := .int) (C := RX12) (T := TX12) (N := 40) hx hb hts in_X12 tyX12 tyX12_ok nmX12 hown hK hP hD hS 10 rfl rfl 13 (by decide) (hts (.fieldLink RX12 180 "TextMenderModel" "rowMany" "I") (List.mem_of_getElem? (i := 3) rfl)) (fun _ h9 => h9) rfl (by decide +kernel) rfl rfl (Nat.le_of_ble_eq_true rfl) dX12_rows_193 (kW (wn := [(mR, .inl (cI, 1548, .inl f_17)), (mY, .inl (cI, 2600, .inl eY_8)), (mB, .inl (cS, 131072, .inl eB)), (mL, .inl (cI, 512, .inl eL)), (mE, .inl (cI, 2600, .inl eE_8)), (mO, .inl (cI, 300, .inl eO_8)), (mS, .inl (cI, 21, .inl eS)), (mX, .inl (cI, 6300, .inl eX)), (m1, .inl (cI, 6, .inl e1)), (m2, .inl (cI, 6, .inl e2)), (oM, .inr (12, [.ref mT, .int zt, .ref mS, .ref mX, .int zp, .int zf, .ref mL, .ref mB, .ref mD, .ref m1, .ref m2, .int zh, .ref mR, .int x_18, .ref x1, .ref x2, .ref x3, .int zc, .ref mH, .int zy, .int za, .int zb, .int zs, .int zq, .int (-1), .int 0, .ref mY, .int zn_8, .ref mE, .int zm_8, .int zl_8, .ref mW, .int zk_8, .ref mO, .int zd_8, .ref y1, .ref y2, .ref y3, .ref y4, .ref mZ])), (x1, .inl (cI, 300, .inl ec1)), (x2, .inl (cI, 300, .inl ec2)), (x3, .inl (cI, 300, .inl ec3)), (mW, .inl (cI, 300, .inl eW_8))]) rfl (fun H locs hPn hDn hSn => ?_))
                            clear hP hD hS
                            have hP := hPn
                            have hD := hDn
                            have hS := hSn
                            clear hPn hDn hSn
                            obtain ⟨x_19, ex_19⟩ : ∃ y : Int32, y = co + 1 := ⟨_, rfl⟩
                            have tx_19 : x_19.toInt = co.toInt + 1 := v_add ex_19 (by show -2147483648 ≤ co.toInt + 1; omega) (by show co.toInt + 1 < 2147483648; omega)
                            refine lv_iinc (v := x_19) (lv' := [(4, .int x_19), (6, .int k), (5, .int x_10), (3, .int r_5), (2, .int my), (0, .ref oM), (1, .int n)]) hx hb dX12_rows_196 hl (k := 2) rfl (by rw [ex_19]; rfl) (by decide) rfl (fun ls hl => ?_)
                            refine lv_goto (tgt := 57) hx hb dX12_rows_199 (by decide) ?_
                            exact ih_57 x_19 zn_8 zd_8 zm_8 zl_8 zk_8 x_18 eY_8 eE_8 eW_8 eO_8 f_17 _ _ _ (ms_lt hm_57 (by show ((r_5.toInt - x_19.toInt : Int)) < r_5.toInt - co.toInt; omega) (by show (0 : Int) < r_5.toInt - co.toInt; omega)) (by show 0 ≤ x_19.toInt ∧ x_19.toInt ≤ r_5.toInt; omega) (hf8_0) (hf8_2) (hf8_4) (by show 0 ≤ x_18.toInt ∧ x_18.toInt ≤ 258; omega) (hf8_1) (hf8_3) (hf8_5) (hf8_6) (by show (my.toInt = 1 ∧ x_18.toInt ≤ x_19.toInt) ∨ (my.toInt = 2 ∧ x_18.toInt ≤ 6 + x_19.toInt) ∨ (my.toInt = 3 ∧ x_18.toInt ≤ 42 + x_19.toInt); omega) (hP.sub [10, 1, 2, 3, 4, 14, 5, 6, 7, 8, 9, 0, 11, 12, 13] rfl) (hD.sub [10, 1, 2, 3, 4, 14, 5, 6, 7, 8, 9, 0, 11, 12, 13] (by decide +kernel) rfl) hS (lv_sub hl [0, 3, 4, 5, 6] rfl)
                          · have tc_12 : k.toInt < 3 := v_nle c_12
                            refine lv_aload_n hx hb dX12_rows_102 rfl (lv_at hl 5 rfl) ?_
                            refine va_get (D := (dC, dI)) (ci := 12) (v := .ref mR) (C := RX12) (T := TX12) (N := 40) hx hb hts in_X12 hown hK hP 4 rfl rfl 12 (by decide) (hts (.fieldLink RX12 36 "TextMenderModel" "rows" "[I") (List.mem_of_getElem? (i := 5) rfl)) (fun _ h9 => h9) rfl dX12_rows_103 ?_
                            refine lv_iload hx hb dX12_rows_106 (lv_at hl 1 rfl) ?_
                            refine lv_iconst (v := 1) hx hb dX12_rows_108 (by decide) ?_
                            refine lv_iadd hx hb dX12_rows_109 ?_
                            refine lv_topi (fun x_20 ex_20 => ?_)
                            have tx_20 : x_20.toInt = x_10.toInt + 1 := v_add ex_20 (by show -2147483648 ≤ x_10.toInt + 1; omega) (by show x_10.toInt + 1 < 2147483648; omega)
                            refine lv_iload hx hb dX12_rows_110 (lv_at hl 0 rfl) ?_
                            refine lv_iadd hx hb dX12_rows_112 ?_
                            refine lv_topi (fun x_21 ex_21 => ?_)
                            have tx_21 : x_21.toInt = x_20.toInt + k.toInt := v_add ex_21 (by show -2147483648 ≤ x_20.toInt + k.toInt; omega) (by show x_20.toInt + k.toInt < 2147483648; omega)
                            refine lv_iload hx hb dX12_rows_113 (lv_at hl 0 rfl) ?_
                            refine lv_iload_n hx hb dX12_rows_115 rfl (lv_at hl 4 rfl) ?_
                            refine lv_icmp_ge (tgt := 143) hx hb dX12_rows_116 (by decide) (fun c_22 => ?_) (fun c_22 => ?_)
                            · have tc_22 : my.toInt ≤ k.toInt := v_le c_22
                              refine lv_iconst (v := (-1)) hx hb dX12_rows_143 (by decide) ?_
                              obtain ⟨f_23, ef_23⟩ : ∃ g : Nat → Int32, g = upd eRc (x_21 : Int32).toNatClampNeg (-1) := ⟨_, rfl⟩
                              refine va_iast hx hb hK hP hD hS 0 0 rfl rfl (v_in (by omega)) dX12_rows_144 (kWf (g := f_23) (F := fun f_23 => [(mR, .inl (cI, 1548, .inl f_23)), (x1, .inl (cI, 300, .inl ec1)), (x2, .inl (cI, 300, .inl ec2)), (x3, .inl (cI, 300, .inl ec3)), (oM, .inr (12, [.ref mT, .int zt, .ref mS, .ref mX, .int zp, .int zf, .ref mL, .ref mB, .ref mD, .ref m1, .ref m2, .int zh, .ref mR, .int zrb, .ref x1, .ref x2, .ref x3, .int zc, .ref mH, .int zy, .int za, .int zb, .int zs, .int zq, .int (-1), .int 0, .ref mY, .int zn_8, .ref mE, .int zm_8, .int zl_8, .ref mW, .int zk_8, .ref mO, .int zd_8, .ref y1, .ref y2, .ref y3, .ref y4, .ref mZ])), (mY, .inl (cI, 2600, .inl eY_8)), (mB, .inl (cS, 131072, .inl eB)), (mL, .inl (cI, 512, .inl eL)), (mE, .inl (cI, 2600, .inl eE_8)), (mW, .inl (cI, 300, .inl eW_8)), (mO, .inl (cI, 300, .inl eO_8)), (mS, .inl (cI, 21, .inl eS)), (mX, .inl (cI, 6300, .inl eX)), (m1, .inl (cI, 6, .inl e1)), (m2, .inl (cI, 6, .inl e2))]) ef_23 rfl (fun H locs hPn hDn hSn => ?_))
                              clear hP hD hS
                              have hP := hPn
                              have hD := hDn
                              have hS := hSn
                              clear hPn hDn hSn
                              obtain ⟨x_24, ex_24⟩ : ∃ y : Int32, y = k + 1 := ⟨_, rfl⟩
                              have tx_24 : x_24.toInt = k.toInt + 1 := v_addR (l2 := 1) (h2 := 1) ex_24 g_k (by decide) (by decide) (by decide)
                              refine lv_iinc (v := x_24) (lv' := [(6, .int x_24), (5, .int x_10), (4, .int co), (3, .int r_5), (2, .int my), (0, .ref oM), (1, .int n)]) hx hb dX12_rows_145 hl (k := 0) rfl (by rw [ex_24]; rfl) (by decide) rfl (fun ls hl => ?_)
                              refine lv_goto (tgt := 96) hx hb dX12_rows_148 (by decide) ?_
                              exact ih_96 x_24 f_23 _ _ _ (ms_lt hm_96 (by show ((3 - x_24.toInt : Int)) < 3 - k.toInt; omega) (by show (0 : Int) < 3 - k.toInt; omega)) (by show 0 ≤ x_24.toInt ∧ x_24.toInt ≤ 3; omega) hP hD hS (lv_sub hl [0, 1, 2, 3, 4, 5, 6] rfl)
                            · have tc_22 : k.toInt < my.toInt := v_nle c_22
                              refine lv_iload hx hb dX12_rows_119 (lv_at hl 2 rfl) ?_
                              refine lv_aload_n hx hb dX12_rows_121 rfl (lv_at hl 5 rfl) ?_
                              refine va_get (D := (dC, dI)) (ci := 12) (v := .int zh) (C := RX12) (T := TX12) (N := 40) hx hb hts in_X12 hown hK hP 4 rfl rfl 11 (by decide) (hts (.fieldLink RX12 161 "TextMenderModel" "harms" "I") (List.mem_of_getElem? (i := 4) rfl)) (fun _ h9 => h9) rfl dX12_rows_122 ?_
                              refine lv_iload_n hx hb dX12_rows_125 rfl (lv_at hl 4 rfl) ?_
                              refine lv_iconst (v := 1) hx hb dX12_rows_126 (by decide) ?_
                              refine lv_isub hx hb dX12_rows_127 ?_
                              refine lv_topi (fun x_25 ex_25 => ?_)
                              have tx_25 : x_25.toInt = my.toInt - 1 := v_subR (l2 := 1) (h2 := 1) ex_25 g_my (by decide) (by decide) (by decide)
                              refine lv_iload hx hb dX12_rows_128 (lv_at hl 0 rfl) ?_
                              refine lv_isub hx hb dX12_rows_130 ?_
                              refine lv_topi (fun x_26 ex_26 => ?_)
                              have tx_26 : x_26.toInt = x_25.toInt - k.toInt := v_subR ex_26 (v_difR (l := 0) (h := 3) (l2 := 1) (h2 := 1) tx_25 g_my (by decide) (by decide) (by decide)) g_k (by decide) (by decide)
                              refine kS_i (rest := [.int co, .int x_21, .ref mR]) hcf (m_X12_power l dC dI cI cS H.size zh x_26 (by omega) (by omega)) kc_X12_power gX12_rows_X12_power rfl rfl ⟨Nat.le_of_ble_eq_true rfl, Nat.le_of_ble_eq_true rfl⟩ kX_t hK hP hD hS hA [] [0, 1, 2, 3, 4, 5, 6, 7, 8, 9, 10, 11, 12, 13, 14] rfl (by decide +kernel) rfl hl rfl (Nat.le_of_ble_eq_true rfl) dX12_rows_131 ⟨Nat.le_of_ble_eq_true rfl, Nat.le_of_ble_eq_true rfl⟩ (fun r_27 H locs hB hJ hSn => ?_)
                              obtain ⟨⟨hP1, hD1⟩, hf27_0, hf27_1⟩ := hB
                              obtain ⟨hPn, hDn⟩ := hJ _ hP1 hD1 [(mR, .inl (cI, 1548, .inl eRc)), (x1, .inl (cI, 300, .inl ec1)), (x2, .inl (cI, 300, .inl ec2)), (x3, .inl (cI, 300, .inl ec3)), (oM, .inr (12, [.ref mT, .int zt, .ref mS, .ref mX, .int zp, .int zf, .ref mL, .ref mB, .ref mD, .ref m1, .ref m2, .int zh, .ref mR, .int zrb, .ref x1, .ref x2, .ref x3, .int zc, .ref mH, .int zy, .int za, .int zb, .int zs, .int zq, .int (-1), .int 0, .ref mY, .int zn_8, .ref mE, .int zm_8, .int zl_8, .ref mW, .int zk_8, .ref mO, .int zd_8, .ref y1, .ref y2, .ref y3, .ref y4, .ref mZ])), (mY, .inl (cI, 2600, .inl eY_8)), (mB, .inl (cS, 131072, .inl eB)), (mL, .inl (cI, 512, .inl eL)), (mE, .inl (cI, 2600, .inl eE_8)), (mW, .inl (cI, 300, .inl eW_8)), (mO, .inl (cI, 300, .inl eO_8)), (mS, .inl (cI, 21, .inl eS)), (mX, .inl (cI, 6300, .inl eX)), (m1, .inl (cI, 6, .inl e1)), (m2, .inl (cI, 6, .inl e2))] rfl
                              clear hP hD hS hJ hP1 hD1
                              have hP := hPn
                              have hD := hDn
                              have hS := hSn
                              clear hPn hDn hSn
                              refine lv_idiv hx hb dX12_rows_134 (v_nz (by omega)) ?_
                              refine lv_topi (fun x_28 ex_28 => ?_)
                              have tx_28 : 0 ≤ x_28.toInt ∧ x_28.toInt ≤ co.toInt := v_divr ex_28 (by show 0 ≤ co.toInt; omega) (by show 1 ≤ r_27.toInt; omega)
                              refine lv_aload_n hx hb dX12_rows_135 rfl (lv_at hl 5 rfl) ?_
                              refine va_get (D := (dC, dI)) (ci := 12) (v := .int zh) (C := RX12) (T := TX12) (N := 40) hx hb hts in_X12 hown hK hP 4 rfl rfl 11 (by decide) (hts (.fieldLink RX12 161 "TextMenderModel" "harms" "I") (List.mem_of_getElem? (i := 4) rfl)) (fun _ h9 => h9) rfl dX12_rows_136 ?_
                              refine lv_irem hx hb dX12_rows_139 (v_nz (by omega)) ?_
                              refine lv_topi (fun x_29 ex_29 => ?_)
                              have tx_29 : 0 ≤ x_29.toInt ∧ x_29.toInt < zh.toInt := v_remr ex_29 (by show 0 ≤ x_28.toInt; omega) (by show 1 ≤ zh.toInt; omega)
                              refine lv_goto (tgt := 144) hx hb dX12_rows_140 (by decide) ?_
                              obtain ⟨f_30, ef_30⟩ : ∃ g : Nat → Int32, g = upd eRc (x_21 : Int32).toNatClampNeg x_29 := ⟨_, rfl⟩
                              refine va_iast hx hb hK hP hD hS 0 0 rfl rfl (v_in (by omega)) dX12_rows_144 (kWf (g := f_30) (F := fun f_30 => [(mR, .inl (cI, 1548, .inl f_30)), (x1, .inl (cI, 300, .inl ec1)), (x2, .inl (cI, 300, .inl ec2)), (x3, .inl (cI, 300, .inl ec3)), (oM, .inr (12, [.ref mT, .int zt, .ref mS, .ref mX, .int zp, .int zf, .ref mL, .ref mB, .ref mD, .ref m1, .ref m2, .int zh, .ref mR, .int zrb, .ref x1, .ref x2, .ref x3, .int zc, .ref mH, .int zy, .int za, .int zb, .int zs, .int zq, .int (-1), .int 0, .ref mY, .int zn_8, .ref mE, .int zm_8, .int zl_8, .ref mW, .int zk_8, .ref mO, .int zd_8, .ref y1, .ref y2, .ref y3, .ref y4, .ref mZ])), (mY, .inl (cI, 2600, .inl eY_8)), (mB, .inl (cS, 131072, .inl eB)), (mL, .inl (cI, 512, .inl eL)), (mE, .inl (cI, 2600, .inl eE_8)), (mW, .inl (cI, 300, .inl eW_8)), (mO, .inl (cI, 300, .inl eO_8)), (mS, .inl (cI, 21, .inl eS)), (mX, .inl (cI, 6300, .inl eX)), (m1, .inl (cI, 6, .inl e1)), (m2, .inl (cI, 6, .inl e2))]) ef_30 rfl (fun H locs hPn hDn hSn => ?_))
                              clear hP hD hS
                              have hP := hPn
                              have hD := hDn
                              have hS := hSn
                              clear hPn hDn hSn
                              obtain ⟨x_31, ex_31⟩ : ∃ y : Int32, y = k + 1 := ⟨_, rfl⟩
                              have tx_31 : x_31.toInt = k.toInt + 1 := v_addR (l2 := 1) (h2 := 1) ex_31 g_k (by decide) (by decide) (by decide)
                              refine lv_iinc (v := x_31) (lv' := [(6, .int x_31), (5, .int x_10), (4, .int co), (3, .int r_5), (2, .int my), (0, .ref oM), (1, .int n)]) hx hb dX12_rows_145 hl (k := 0) rfl (by rw [ex_31]; rfl) (by decide) rfl (fun ls hl => ?_)
                              refine lv_goto (tgt := 96) hx hb dX12_rows_148 (by decide) ?_
                              exact ih_96 x_31 f_30 _ _ _ (ms_lt hm_96 (by show ((3 - x_31.toInt : Int)) < 3 - k.toInt; omega) (by show (0 : Int) < 3 - k.toInt; omega)) (by show 0 ≤ x_31.toInt ∧ x_31.toInt ≤ 3; omega) hP hD hS (lv_sub hl [0, 1, 2, 3, 4, 5, 6] rfl)
                      exact LOOP_96 _ 0 f_11 _ _ _ (ms_s _) (by decide) hP hD hS (lv_sub hl [0, 1, 2, 3, 4, 5, 6] rfl)
                    · have tc_9 : r_8.toInt = 0 := v_eq c_9
                      refine lv_goto (tgt := 196) hx hb dX12_rows_73 (by decide) ?_
                      obtain ⟨x_32, ex_32⟩ : ∃ y : Int32, y = co + 1 := ⟨_, rfl⟩
                      have tx_32 : x_32.toInt = co.toInt + 1 := v_add ex_32 (by show -2147483648 ≤ co.toInt + 1; omega) (by show co.toInt + 1 < 2147483648; omega)
                      refine lv_iinc (v := x_32) (lv' := [(4, .int x_32), (3, .int r_5), (2, .int my), (0, .ref oM), (1, .int n)]) hx hb dX12_rows_196 hl (k := 0) rfl (by rw [ex_32]; rfl) (by decide) rfl (fun ls hl => ?_)
                      refine lv_goto (tgt := 57) hx hb dX12_rows_199 (by decide) ?_
                      exact ih_57 x_32 zn_8 zd_8 zm_8 zl_8 zk_8 zrb eY_8 eE_8 eW_8 eO_8 eRb _ _ _ (ms_lt hm_57 (by show ((r_5.toInt - x_32.toInt : Int)) < r_5.toInt - co.toInt; omega) (by show (0 : Int) < r_5.toInt - co.toInt; omega)) (by show 0 ≤ x_32.toInt ∧ x_32.toInt ≤ r_5.toInt; omega) (hf8_0) (hf8_2) (hf8_4) (g_zrb) (hf8_1) (hf8_3) (hf8_5) (hf8_6) (by show (my.toInt = 1 ∧ zrb.toInt ≤ x_32.toInt) ∨ (my.toInt = 2 ∧ zrb.toInt ≤ 6 + x_32.toInt) ∨ (my.toInt = 3 ∧ zrb.toInt ≤ 42 + x_32.toInt); omega) (hP.sub [4, 5, 6, 7, 8, 9, 10, 11, 12, 13, 14, 0, 1, 2, 3] rfl) (hD.sub [4, 5, 6, 7, 8, 9, 10, 11, 12, 13, 14, 0, 1, 2, 3] (by decide +kernel) rfl) hS (lv_sub hl [0, 1, 2, 3, 4] rfl)
              exact LOOP_57 _ 0 zna zda zma zla zka zra eYa eEa eWa eOa eRa _ _ _ (ms_s _) (by show 0 ≤ (0 : Int) ∧ (0 : Int) ≤ r_5.toInt; omega) (g_zna) (g_zma) (g_zka) (g_zra) (g_eYa) (g_eEa) (g_eWa) (g_eOa) (by show (my.toInt = 1 ∧ zra.toInt ≤ 0) ∨ (my.toInt = 2 ∧ zra.toInt ≤ 6 + 0) ∨ (my.toInt = 3 ∧ zra.toInt ≤ 42 + 0); omega) hP hD hS (lv_sub hl [0, 1, 2, 3, 4] rfl)
            · have tc_4 : zh.toInt = 0 := v_eq c_4
              refine lv_iconst (v := 0) hx hb dX12_rows_41 (by decide) ?_
              refine lv_goto (tgt := 53) hx hb dX12_rows_42 (by decide) ?_
              refine lv_istore_n (lv' := [(3, .int 0), (2, .int my), (0, .ref oM), (1, .int n)]) hx hb dX12_rows_53 rfl hl (by decide) rfl (fun ls hl => ?_)
              refine lv_iconst (v := 0) hx hb dX12_rows_54 (by decide) ?_
              refine lv_istore (lv' := [(4, .int 0), (3, .int 0), (2, .int my), (0, .ref oM), (1, .int n)]) hx hb dX12_rows_55 hl (by decide) rfl (fun ls hl => ?_)
              have LOOP_57 : ∀ (k_57 : Nat) (co : Int32) (znb : Int32) (zdb : Int32) (zmb : Int32) (zlb : Int32) (zkb : Int32) (zrb : Int32) (eYb : Nat → Int32) (eEb : Nat → Int32) (eWb : Nat → Int32) (eOb : Nat → Int32) (eRb : Nat → Int32) (H : Heap) (locs : List Loc) (ls : Array Slot), MSd (0 - co.toInt : Int) k_57 → (0 ≤ co.toInt ∧ co.toInt ≤ 0) → (0 ≤ znb.toInt ∧ znb.toInt ≤ 2600) → (0 ≤ zmb.toInt ∧ zmb.toInt ≤ 2600) → (0 ≤ zkb.toInt ∧ zkb.toInt ≤ 300) → (0 ≤ zrb.toInt ∧ zrb.toInt ≤ 258) → (rg 0 255 eYb) → (rg 0 65535 eEb) → (rg 0 65535 eWb) → (rg 0 65535 eOb) → ((my.toInt = 1 ∧ zrb.toInt ≤ co.toInt) ∨ (my.toInt = 2 ∧ zrb.toInt ≤ 6 + co.toInt) ∨ (my.toInt = 3 ∧ zrb.toInt ≤ 42 + co.toInt)) → va_P (dC, dI) vwCl [(oM, .inr (12, [.ref mT, .int zt, .ref mS, .ref mX, .int zp, .int zf, .ref mL, .ref mB, .ref mD, .ref m1, .ref m2, .int zh, .ref mR, .int zrb, .ref x1, .ref x2, .ref x3, .int zc, .ref mH, .int zy, .int za, .int zb, .int zs, .int zq, .int (-1), .int 0, .ref mY, .int znb, .ref mE, .int zmb, .int zlb, .ref mW, .int zkb, .ref mO, .int zdb, .ref y1, .ref y2, .ref y3, .ref y4, .ref mZ])), (mY, .inl (cI, 2600, .inl eYb)), (mB, .inl (cS, 131072, .inl eB)), (mL, .inl (cI, 512, .inl eL)), (mE, .inl (cI, 2600, .inl eEb)), (mW, .inl (cI, 300, .inl eWb)), (mO, .inl (cI, 300, .inl eOb)), (mS, .inl (cI, 21, .inl eS)), (mX, .inl (cI, 6300, .inl eX)), (m1, .inl (cI, 6, .inl e1)), (m2, .inl (cI, 6, .inl e2)), (mR, .inl (cI, 1548, .inl eRb)), (x1, .inl (cI, 300, .inl ec1)), (x2, .inl (cI, 300, .inl ec2)), (x3, .inl (cI, 300, .inl ec3))] H → va_D A [(oM, .inr (12, [.ref mT, .int zt, .ref mS, .ref mX, .int zp, .int zf, .ref mL, .ref mB, .ref mD, .ref m1, .ref m2, .int zh, .ref mR, .int zrb, .ref x1, .ref x2, .ref x3, .int zc, .ref mH, .int zy, .int za, .int zb, .int zs, .int zq, .int (-1), .int 0, .ref mY, .int znb, .ref mE, .int zmb, .int zlb, .ref mW, .int zkb, .ref mO, .int zdb, .ref y1, .ref y2, .ref y3, .ref y4, .ref mZ])), (mY, .inl (cI, 2600, .inl eYb)), (mB, .inl (cS, 131072, .inl eB)), (mL, .inl (cI, 512, .inl eL)), (mE, .inl (cI, 2600, .inl eEb)), (mW, .inl (cI, 300, .inl eWb)), (mO, .inl (cI, 300, .inl eOb)), (mS, .inl (cI, 21, .inl eS)), (mX, .inl (cI, 6300, .inl eX)), (m1, .inl (cI, 6, .inl e1)), (m2, .inl (cI, 6, .inl e2)), (mR, .inl (cI, 1548, .inl eRb)), (x1, .inl (cI, 300, .inl ec1)), (x2, .inl (cI, 300, .inl ec2)), (x3, .inl (cI, 300, .inl ec3))] → va_S A s.heap H locs → lv_has ls 7 [(4, .int co), (3, .int 0), (2, .int my), (0, .ref oM), (1, .int n)] → W p l e (headSpec wsX12_rows ({ frames := 6, cells := 0, slots := 0, locals := 145 } : Room)).room s m ([.ref oM, .int n] : List Value).toArray below meth c H locs 0 0 (MQ below QQ ([.ref oM, .int n] : List Value).toArray s 0 0 A) (F0 m 57 ls []) := by
                clear hP hD hS hl
                try (clear tc_4 g_zna g_zma g_zka g_eYa g_eEa g_eWa g_eOa g_zt g_zp g_zf g_zh g_zc g_zy g_za g_zb g_zs g_zq g_zn g_zm g_zk g_eY g_eB g_eL g_eE g_eW g_eO g_eS g_eX g_e1 g_e2 hzs)
                intro k_57
                induction k_57 with
                | zero =>
                  intro co znb zdb zmb zlb zkb zrb eYb eEb eWb eOb eRb H locs ls hm_57 g_co g_znb g_zmb g_zkb g_zrb g_eYb g_eEb g_eWb g_eOb hco hP hD hS hl
                  exact ms_0 hm_57
                | succ k_57 ih_57 =>
                  intro co znb zdb zmb zlb zkb zrb eYb eEb eWb eOb eRb H locs ls hm_57 g_co g_znb g_zmb g_zkb g_zrb g_eYb g_eEb g_eWb g_eOb hco hP hD hS hl
                  refine lv_iload hx hb dX12_rows_57 (lv_at hl 0 rfl) ?_
                  refine lv_iload_n hx hb dX12_rows_59 rfl (lv_at hl 1 rfl) ?_
                  refine lv_icmp_ge (tgt := 202) hx hb dX12_rows_60 (by decide) (fun c_33 => ?_) (fun c_33 => by exfalso; have tc_33 : co.toInt < 0 := v_nle c_33; omega)
                  have tc_33 : 0 ≤ co.toInt := v_le c_33
                  obtain ⟨x_34, ex_34⟩ : ∃ y : Int32, y = my + 1 := ⟨_, rfl⟩
                  have tx_34 : x_34.toInt = my.toInt + 1 := v_addR (l2 := 1) (h2 := 1) ex_34 g_my (by decide) (by decide) (by decide)
                  refine lv_iinc (v := x_34) (lv' := [(2, .int x_34), (4, .int co), (3, .int 0), (0, .ref oM), (1, .int n)]) hx hb dX12_rows_202 hl (k := 2) rfl (by rw [ex_34]; rfl) (by decide) rfl (fun ls hl => ?_)
                  refine lv_goto (tgt := 29) hx hb dX12_rows_205 (by decide) ?_
                  exact ih_29 x_34 znb zdb zmb zlb zkb zrb eYb eEb eWb eOb eRb _ _ _ (ms_lt hm_29 (by show ((4 - x_34.toInt : Int)) < 4 - my.toInt; omega) (by show (0 : Int) < 4 - my.toInt; omega)) (by show 1 ≤ x_34.toInt ∧ x_34.toInt ≤ 4; omega) (g_znb) (g_zmb) (g_zkb) (g_zrb) (g_eYb) (g_eEb) (g_eWb) (g_eOb) (by show (x_34.toInt = 1 ∧ zrb.toInt = 0) ∨ (x_34.toInt = 2 ∧ zrb.toInt ≤ 6) ∨ (x_34.toInt = 3 ∧ zrb.toInt ≤ 42) ∨ (x_34.toInt = 4 ∧ zrb.toInt ≤ 258); omega) hP hD hS (lv_sub hl [0, 3, 4] rfl)
              exact LOOP_57 _ 0 zna zda zma zla zka zra eYa eEa eWa eOa eRa _ _ _ (ms_s _) (by show 0 ≤ (0 : Int) ∧ (0 : Int) ≤ 0; omega) (g_zna) (g_zma) (g_zka) (g_zra) (g_eYa) (g_eEa) (g_eWa) (g_eOa) (by show (my.toInt = 1 ∧ zra.toInt ≤ 0) ∨ (my.toInt = 2 ∧ zra.toInt ≤ 6 + 0) ∨ (my.toInt = 3 ∧ zra.toInt ≤ 42 + 0); omega) hP hD hS (lv_sub hl [0, 1, 2, 3, 4] rfl)
      exact LOOP_29 _ 1 zn zd zm zl zk 0 eY eE eW eO eR _ _ _ (ms_s _) (by decide) (g_zn) (g_zm) (g_zk) (by decide) (g_eY) (g_eE) (g_eW) (g_eO) (by show (1 = 1 ∧ 0 = 0) ∨ (1 = 2 ∧ 0 ≤ 6) ∨ (1 = 3 ∧ 0 ≤ 42) ∨ (1 = 4 ∧ 0 ≤ 258); omega) hP hD hS (lv_sub hl [0, 1, 2] rfl)
    · have tc_2 : 3 < n.toInt := v_nle c_2
      refine lv_iconst (v := (-1)) hx hb dX12_rows_20 (by decide) ?_
      exact kl_i (v := (-1)) hQQ hx hb hr hlocks hS dX12_rows_21 ⟨0, (-1), zr, eR, zn, eY, zd, zm, zl, eE, zk, eW, eO, ⟨hP, hD⟩, g_zr, g_zn, g_eY, g_zm, g_eE, g_zk, g_eW, g_eO⟩

set_option maxHeartbeats 40000000 in
set_option maxRecDepth 100000 in
theorem y_row (l : Launch) (dC : Nat → ClassId) (dI : Nat → Nat → Nat) (cI cS : ClassId) (sz : Nat) (oM : Nat) (mT : Nat) (mS : Nat) (mX : Nat) (mL : Nat) (mB : Nat) (mD : Nat) (m1 : Nat) (m2 : Nat) (mR : Nat) (x1 : Nat) (x2 : Nat) (x3 : Nat) (mH : Nat) (mY : Nat) (mE : Nat) (mW : Nat) (mO : Nat) (y1 : Nat) (y2 : Nat) (y3 : Nat) (y4 : Nat) (mZ : Nat) (zt : Int32) (zp : Int32) (zf : Int32) (zh : Int32) (zr : Int32) (zc : Int32) (zy : Int32) (za : Int32) (zb : Int32) (zs : Int32) (zq : Int32) (zw : Int32) (ze : Int32) (zn : Int32) (zm : Int32) (zl : Int32) (zk : Int32) (zd : Int32) (eR : Nat → Int32) (i : Int32) (wh : Int32) (g_zt : 0 ≤ zt.toInt ∧ zt.toInt ≤ 900) (g_zp : 0 ≤ zp.toInt ∧ zp.toInt ≤ 20) (g_zf : 0 ≤ zf.toInt ∧ zf.toInt ≤ 19) (g_zh : 0 ≤ zh.toInt ∧ zh.toInt ≤ 6) (g_zr : 0 ≤ zr.toInt ∧ zr.toInt ≤ 258) (g_zc : 0 ≤ zc.toInt ∧ zc.toInt ≤ 300) (g_zy : 0 ≤ zy.toInt ∧ zy.toInt ≤ 65536) (g_za : 0 ≤ za.toInt ∧ za.toInt ≤ 5) (g_zb : 0 ≤ zb.toInt ∧ zb.toInt ≤ 5) (g_zs : 0 ≤ zs.toInt ∧ zs.toInt ≤ 2000000) (g_zq : -1 ≤ zq.toInt ∧ zq.toInt ≤ 2000000) (g_zn : 0 ≤ zn.toInt ∧ zn.toInt ≤ 2600) (g_zm : 0 ≤ zm.toInt ∧ zm.toInt ≤ 2600) (g_zk : 0 ≤ zk.toInt ∧ zk.toInt ≤ 300) (hzs : zs.toInt ≤ 1000000) : kMi l yX12_row wsX12_row ({ frames := 0, cells := 0, slots := 0, locals := 0 } : Room) [.ref oM, .int i, .int wh] sz (dC, dI) vwCl [(cI, .int), (cS, .short)] [(oM, .inr (12, [.ref mT, .int zt, .ref mS, .ref mX, .int zp, .int zf, .ref mL, .ref mB, .ref mD, .ref m1, .ref m2, .int zh, .ref mR, .int zr, .ref x1, .ref x2, .ref x3, .int zc, .ref mH, .int zy, .int za, .int zb, .int zs, .int zq, .int zw, .int ze, .ref mY, .int zn, .ref mE, .int zm, .int zl, .ref mW, .int zk, .ref mO, .int zd, .ref y1, .ref y2, .ref y3, .ref y4, .ref mZ])), (mR, .inl (cI, 1548, .inl eR))] (fun _ => True) 0 0 (fun (A : Nat → Prop) (r : Int32) (hh9 : Heap) => ∃ (ze' : Int32), kPD (dC, dI) vwCl A [(oM, .inr (12, [.ref mT, .int zt, .ref mS, .ref mX, .int zp, .int zf, .ref mL, .ref mB, .ref mD, .ref m1, .ref m2, .int zh, .ref mR, .int zr, .ref x1, .ref x2, .ref x3, .int zc, .ref mH, .int zy, .int za, .int zb, .int zs, .int zq, .int zw, .int ze', .ref mY, .int zn, .ref mE, .int zm, .int zl, .ref mW, .int zk, .ref mO, .int zd, .ref y1, .ref y2, .ref y3, .ref y4, .ref mZ])), (mR, .inl (cI, 1548, .inl eR))] hh9) := by
  refine kMi_of (cc := cX12_row) (maxL := 3) (ret := (some .int)) (lv := [(0, .ref oM), (1, .int i), (2, .int wh)]) (by decide +kernel) rfl rfl (Nat.le_of_ble_eq_true rfl) ?_
  intro p e s m below meth c A QQ ls hx hb hr hts hml hown hlocks hA hQQ hK hX hP hD hS hl
  have hown : s.vm.findClass RX12 = some m.cls := hown
  have hcf := k_cf hx hb hml hown hts
  have in_X12 : ∀ w ∈ wsX120, w ∈ wsX12_row := fun _ h => List.mem_cons_of_mem _ (List.mem_append_right _ (h))
  replace g_zt := hid g_zt
  replace g_zp := hid g_zp
  replace g_zf := hid g_zf
  replace g_zh := hid g_zh
  replace g_zc := hid g_zc
  replace g_zy := hid g_zy
  replace g_za := hid g_za
  replace g_zb := hid g_zb
  replace g_zs := hid g_zs
  replace g_zq := hid g_zq
  replace g_zn := hid g_zn
  replace g_zm := hid g_zm
  replace g_zk := hid g_zk
  refine lv_aload_n hx hb dX12_row_0 rfl (lv_at hl 0 rfl) ?_
  refine lv_iconst (v := 0) hx hb dX12_row_1 (by decide) ?_
  refine va_put (D := (dC, dI)) (ci := 12) (v := .int 0) (ty := .int) (C := RX12) (T := TX12) (N := 40) hx hb hts in_X12 tyX12 tyX12_ok nmX12 hown hK hP hD hS 0 rfl rfl 25 (by decide) (hts (.fieldLink RX12 85 "TextMenderModel" "thrown" "I") (List.mem_of_getElem? (i := 1) rfl)) (fun _ h9 => h9) rfl (by decide +kernel) rfl rfl (Nat.le_of_ble_eq_true rfl) dX12_row_2 (kW (wn := [(oM, .inr (12, [.ref mT, .int zt, .ref mS, .ref mX, .int zp, .int zf, .ref mL, .ref mB, .ref mD, .ref m1, .ref m2, .int zh, .ref mR, .int zr, .ref x1, .ref x2, .ref x3, .int zc, .ref mH, .int zy, .int za, .int zb, .int zs, .int zq, .int zw, .int 0, .ref mY, .int zn, .ref mE, .int zm, .int zl, .ref mW, .int zk, .ref mO, .int zd, .ref y1, .ref y2, .ref y3, .ref y4, .ref mZ])), (mR, .inl (cI, 1548, .inl eR))]) rfl (fun H locs hPn hDn hSn => ?_))
  clear hP hD hS
  have hP := hPn
  have hD := hDn
  have hS := hSn
  clear hPn hDn hSn
  refine lv_iload_n hx hb dX12_row_5 rfl (lv_at hl 1 rfl) ?_
  refine lv_if_lt (tgt := 41) hx hb dX12_row_6 (by decide) (fun c_1 => ?_) (fun c_1 => ?_)
  · have tc_1 : i.toInt < 0 := v_lt c_1
    refine lv_iconst (v := (-1)) hx hb dX12_row_41 (by decide) ?_
    exact kl_i (v := (-1)) hQQ hx hb hr hlocks hS dX12_row_42 ⟨0, ⟨hP, hD⟩⟩
  · have tc_1 : 0 ≤ i.toInt := v_nlt c_1
    refine lv_iload_n hx hb dX12_row_9 rfl (lv_at hl 1 rfl) ?_
    refine lv_aload_n hx hb dX12_row_10 rfl (lv_at hl 0 rfl) ?_
    refine va_get (D := (dC, dI)) (ci := 12) (v := .int zr) (C := RX12) (T := TX12) (N := 40) hx hb hts in_X12 hown hK hP 0 rfl rfl 13 (by decide) (hts (.fieldLink RX12 180 "TextMenderModel" "rowMany" "I") (List.mem_of_getElem? (i := 2) rfl)) (fun _ h9 => h9) rfl dX12_row_11 ?_
    refine lv_icmp_ge (tgt := 41) hx hb dX12_row_14 (by decide) (fun c_2 => ?_) (fun c_2 => ?_)
    · have tc_2 : zr.toInt ≤ i.toInt := v_le c_2
      have rw2_0 := v_rng i
      refine lv_iconst (v := (-1)) hx hb dX12_row_41 (by decide) ?_
      exact kl_i (v := (-1)) hQQ hx hb hr hlocks hS dX12_row_42 ⟨0, ⟨hP, hD⟩⟩
    · have tc_2 : i.toInt < zr.toInt := v_nle c_2
      have rw2_0 := v_rng i
      refine lv_iload_n hx hb dX12_row_17 rfl (lv_at hl 2 rfl) ?_
      refine lv_if_lt (tgt := 41) hx hb dX12_row_18 (by decide) (fun c_3 => ?_) (fun c_3 => ?_)
      · have tc_3 : wh.toInt < 0 := v_lt c_3
        refine lv_iconst (v := (-1)) hx hb dX12_row_41 (by decide) ?_
        exact kl_i (v := (-1)) hQQ hx hb hr hlocks hS dX12_row_42 ⟨0, ⟨hP, hD⟩⟩
      · have tc_3 : 0 ≤ wh.toInt := v_nlt c_3
        refine lv_iload_n hx hb dX12_row_21 rfl (lv_at hl 2 rfl) ?_
        refine lv_bipush (v := 6) hx hb dX12_row_22 (by decide) ?_
        refine lv_icmp_ge (tgt := 41) hx hb dX12_row_24 (by decide) (fun c_4 => ?_) (fun c_4 => ?_)
        · have tc_4 : 6 ≤ wh.toInt := v_le c_4
          refine lv_iconst (v := (-1)) hx hb dX12_row_41 (by decide) ?_
          exact kl_i (v := (-1)) hQQ hx hb hr hlocks hS dX12_row_42 ⟨0, ⟨hP, hD⟩⟩
        · have tc_4 : wh.toInt < 6 := v_nle c_4
          refine lv_aload_n hx hb dX12_row_27 rfl (lv_at hl 0 rfl) ?_
          refine va_get (D := (dC, dI)) (ci := 12) (v := .ref mR) (C := RX12) (T := TX12) (N := 40) hx hb hts in_X12 hown hK hP 0 rfl rfl 12 (by decide) (hts (.fieldLink RX12 36 "TextMenderModel" "rows" "[I") (List.mem_of_getElem? (i := 3) rfl)) (fun _ h9 => h9) rfl dX12_row_28 ?_
          refine lv_bipush (v := 6) hx hb dX12_row_31 (by decide) ?_
          refine lv_iload_n hx hb dX12_row_33 rfl (lv_at hl 1 rfl) ?_
          refine lv_imul hx hb dX12_row_34 ?_
          refine lv_topi (fun x_5 ex_5 => ?_)
          have tx_5 : x_5.toInt = 6 * i.toInt := v_mul ex_5 (by show -2147483648 ≤ 6 * i.toInt; omega) (by show 6 * i.toInt < 2147483648; omega)
          refine lv_iload_n hx hb dX12_row_35 rfl (lv_at hl 2 rfl) ?_
          refine lv_iadd hx hb dX12_row_36 ?_
          refine lv_topi (fun x_6 ex_6 => ?_)
          have tx_6 : x_6.toInt = x_5.toInt + wh.toInt := v_add ex_6 (by show -2147483648 ≤ x_5.toInt + wh.toInt; omega) (by show x_5.toInt + wh.toInt < 2147483648; omega)
          refine va_iald hx hb hK hP 1 0 rfl rfl (v_in (by omega)) dX12_row_37 ?_
          refine lv_topi (fun x_7 ex_7 => ?_)
          refine lv_goto (tgt := 42) hx hb dX12_row_38 (by decide) ?_
          exact kl_i (v := x_7) hQQ hx hb hr hlocks hS dX12_row_42 ⟨0, ⟨hP, hD⟩⟩

set_option maxHeartbeats 40000000 in
set_option maxRecDepth 100000 in
theorem m_X12_isToldChoice (l : Launch) (dC : Nat → ClassId) (dI : Nat → Nat → Nat) (cI cS : ClassId) (sz : Nat) (oM : Nat) (mT : Nat) (mS : Nat) (mX : Nat) (mL : Nat) (mB : Nat) (mD : Nat) (m1 : Nat) (m2 : Nat) (mR : Nat) (x1 : Nat) (x2 : Nat) (x3 : Nat) (mH : Nat) (mY : Nat) (mE : Nat) (mW : Nat) (mO : Nat) (y1 : Nat) (y2 : Nat) (y3 : Nat) (y4 : Nat) (mZ : Nat) (zt : Int32) (zp : Int32) (zf : Int32) (zh : Int32) (zr : Int32) (zc : Int32) (zy : Int32) (za : Int32) (zb : Int32) (zs : Int32) (zq : Int32) (zw : Int32) (ze : Int32) (zn : Int32) (zm : Int32) (zl : Int32) (zk : Int32) (zd : Int32) (i : Int32) (g_zt : 0 ≤ zt.toInt ∧ zt.toInt ≤ 900) (g_zp : 0 ≤ zp.toInt ∧ zp.toInt ≤ 20) (g_zf : 0 ≤ zf.toInt ∧ zf.toInt ≤ 19) (g_zh : 0 ≤ zh.toInt ∧ zh.toInt ≤ 6) (g_zr : 0 ≤ zr.toInt ∧ zr.toInt ≤ 258) (g_zc : 0 ≤ zc.toInt ∧ zc.toInt ≤ 300) (g_zy : 0 ≤ zy.toInt ∧ zy.toInt ≤ 65536) (g_za : 0 ≤ za.toInt ∧ za.toInt ≤ 5) (g_zb : 0 ≤ zb.toInt ∧ zb.toInt ≤ 5) (g_zs : 0 ≤ zs.toInt ∧ zs.toInt ≤ 2000000) (g_zq : -1 ≤ zq.toInt ∧ zq.toInt ≤ 2000000) (g_zn : 0 ≤ zn.toInt ∧ zn.toInt ≤ 2600) (g_zm : 0 ≤ zm.toInt ∧ zm.toInt ≤ 2600) (g_zk : 0 ≤ zk.toInt ∧ zk.toInt ≤ 300) : kMi l yX12_isToldChoice wsX12_isToldChoice ({ frames := 0, cells := 0, slots := 0, locals := 0 } : Room) [.ref oM, .int i] sz (dC, dI) vwCl [(cI, .int), (cS, .short)] [(oM, .inr (12, [.ref mT, .int zt, .ref mS, .ref mX, .int zp, .int zf, .ref mL, .ref mB, .ref mD, .ref m1, .ref m2, .int zh, .ref mR, .int zr, .ref x1, .ref x2, .ref x3, .int zc, .ref mH, .int zy, .int za, .int zb, .int zs, .int zq, .int zw, .int ze, .ref mY, .int zn, .ref mE, .int zm, .int zl, .ref mW, .int zk, .ref mO, .int zd, .ref y1, .ref y2, .ref y3, .ref y4, .ref mZ]))] (fun _ => True) 0 0 (fun (A : Nat → Prop) (r : Int32) (hh9 : Heap) => kPD (dC, dI) vwCl A [(oM, .inr (12, [.ref mT, .int zt, .ref mS, .ref mX, .int zp, .int zf, .ref mL, .ref mB, .ref mD, .ref m1, .ref m2, .int zh, .ref mR, .int zr, .ref x1, .ref x2, .ref x3, .int zc, .ref mH, .int zy, .int za, .int zb, .int zs, .int zq, .int zw, .int ze, .ref mY, .int zn, .ref mE, .int zm, .int zl, .ref mW, .int zk, .ref mO, .int zd, .ref y1, .ref y2, .ref y3, .ref y4, .ref mZ]))] hh9 ∧ (0 ≤ r.toInt ∧ r.toInt ≤ 1) ∧ ((r.toInt = 1 ∧ 0 ≤ i.toInt ∧ i.toInt < zy.toInt ∧ i.toInt < 200) ∨ r.toInt = 0)) := by
  refine kMi_of (cc := cX12_isToldChoice) (maxL := 2) (ret := (some .boolean)) (lv := [(0, .ref oM), (1, .int i)]) (by decide +kernel) rfl rfl (Nat.le_of_ble_eq_true rfl) ?_
  intro p e s m below meth c A QQ ls hx hb hr hts hml hown hlocks hA hQQ hK hX hP hD hS hl
  have hown : s.vm.findClass RX12 = some m.cls := hown
  have hcf := k_cf hx hb hml hown hts
  have in_X12 : ∀ w ∈ wsX120, w ∈ wsX12_isToldChoice := fun _ h => List.mem_cons_of_mem _ (List.mem_append_right _ (h))
  replace g_zt := hid g_zt
  replace g_zp := hid g_zp
  replace g_zf := hid g_zf
  replace g_zh := hid g_zh
  replace g_zr := hid g_zr
  replace g_zc := hid g_zc
  replace g_za := hid g_za
  replace g_zb := hid g_zb
  replace g_zs := hid g_zs
  replace g_zq := hid g_zq
  replace g_zn := hid g_zn
  replace g_zm := hid g_zm
  replace g_zk := hid g_zk
  refine lv_iload_n hx hb dX12_isToldChoice_0 rfl (lv_at hl 1 rfl) ?_
  refine lv_if_lt (tgt := 23) hx hb dX12_isToldChoice_1 (by decide) (fun c_1 => ?_) (fun c_1 => ?_)
  · have tc_1 : i.toInt < 0 := v_lt c_1
    refine lv_iconst (v := 0) hx hb dX12_isToldChoice_23 (by decide) ?_
    exact kl_z (v := 0) hQQ hx hb hr hlocks hS dX12_isToldChoice_24 (rfl) ⟨⟨hP, hD⟩, by decide, by show (0 = 1 ∧ 0 ≤ i.toInt ∧ i.toInt < zy.toInt ∧ i.toInt < 200) ∨ 0 = 0; omega⟩
  · have tc_1 : 0 ≤ i.toInt := v_nlt c_1
    refine lv_iload_n hx hb dX12_isToldChoice_4 rfl (lv_at hl 1 rfl) ?_
    refine lv_aload_n hx hb dX12_isToldChoice_5 rfl (lv_at hl 0 rfl) ?_
    refine va_get (D := (dC, dI)) (ci := 12) (v := .int zy) (C := RX12) (T := TX12) (N := 40) hx hb hts in_X12 hown hK hP 0 rfl rfl 19 (by decide) (hts (.fieldLink RX12 213 "TextMenderModel" "choiceMany" "I") (List.mem_of_getElem? (i := 1) rfl)) (fun _ h9 => h9) rfl dX12_isToldChoice_6 ?_
    refine lv_icmp_ge (tgt := 23) hx hb dX12_isToldChoice_9 (by decide) (fun c_2 => ?_) (fun c_2 => ?_)
    · have tc_2 : zy.toInt ≤ i.toInt := v_le c_2
      have rw2_0 := v_rng i
      refine lv_iconst (v := 0) hx hb dX12_isToldChoice_23 (by decide) ?_
      exact kl_z (v := 0) hQQ hx hb hr hlocks hS dX12_isToldChoice_24 (rfl) ⟨⟨hP, hD⟩, by decide, by show (0 = 1 ∧ 0 ≤ i.toInt ∧ i.toInt < zy.toInt ∧ i.toInt < 200) ∨ 0 = 0; omega⟩
    · have tc_2 : i.toInt < zy.toInt := v_nle c_2
      have rw2_0 := v_rng i
      refine lv_iload_n hx hb dX12_isToldChoice_12 rfl (lv_at hl 1 rfl) ?_
      refine lv_sipush (v := 200) hx hb dX12_isToldChoice_13 (by decide) ?_
      refine lv_icmp_ge (tgt := 23) hx hb dX12_isToldChoice_16 (by decide) (fun c_3 => ?_) (fun c_3 => ?_)
      · have tc_3 : 200 ≤ i.toInt := v_le c_3
        refine lv_iconst (v := 0) hx hb dX12_isToldChoice_23 (by decide) ?_
        exact kl_z (v := 0) hQQ hx hb hr hlocks hS dX12_isToldChoice_24 (rfl) ⟨⟨hP, hD⟩, by decide, by show (0 = 1 ∧ 0 ≤ i.toInt ∧ i.toInt < zy.toInt ∧ i.toInt < 200) ∨ 0 = 0; omega⟩
      · have tc_3 : i.toInt < 200 := v_nle c_3
        refine lv_iconst (v := 1) hx hb dX12_isToldChoice_19 (by decide) ?_
        refine lv_goto (tgt := 24) hx hb dX12_isToldChoice_20 (by decide) ?_
        exact kl_z (v := 1) hQQ hx hb hr hlocks hS dX12_isToldChoice_24 (rfl) ⟨⟨hP, hD⟩, by decide, by show (1 = 1 ∧ 0 ≤ i.toInt ∧ i.toInt < zy.toInt ∧ i.toInt < 200) ∨ 1 = 0; omega⟩

set_option maxHeartbeats 40000000 in
set_option maxRecDepth 100000 in
theorem y_choice (l : Launch) (dC : Nat → ClassId) (dI : Nat → Nat → Nat) (cI cS : ClassId) (sz : Nat) (oM : Nat) (mT : Nat) (mS : Nat) (mX : Nat) (mL : Nat) (mB : Nat) (mD : Nat) (m1 : Nat) (m2 : Nat) (mR : Nat) (x1 : Nat) (x2 : Nat) (x3 : Nat) (mH : Nat) (mY : Nat) (mE : Nat) (mW : Nat) (mO : Nat) (y1 : Nat) (y2 : Nat) (y3 : Nat) (y4 : Nat) (mZ : Nat) (zt : Int32) (zp : Int32) (zf : Int32) (zh : Int32) (zr : Int32) (zc : Int32) (zy : Int32) (za : Int32) (zb : Int32) (zs : Int32) (zq : Int32) (zw : Int32) (ze : Int32) (zn : Int32) (zm : Int32) (zl : Int32) (zk : Int32) (zd : Int32) (eH : Nat → Int32) (i : Int32) (wh : Int32) (g_zt : 0 ≤ zt.toInt ∧ zt.toInt ≤ 900) (g_zp : 0 ≤ zp.toInt ∧ zp.toInt ≤ 20) (g_zf : 0 ≤ zf.toInt ∧ zf.toInt ≤ 19) (g_zh : 0 ≤ zh.toInt ∧ zh.toInt ≤ 6) (g_zr : 0 ≤ zr.toInt ∧ zr.toInt ≤ 258) (g_zc : 0 ≤ zc.toInt ∧ zc.toInt ≤ 300) (g_zy : 0 ≤ zy.toInt ∧ zy.toInt ≤ 65536) (g_za : 0 ≤ za.toInt ∧ za.toInt ≤ 5) (g_zb : 0 ≤ zb.toInt ∧ zb.toInt ≤ 5) (g_zs : 0 ≤ zs.toInt ∧ zs.toInt ≤ 2000000) (g_zq : -1 ≤ zq.toInt ∧ zq.toInt ≤ 2000000) (g_zn : 0 ≤ zn.toInt ∧ zn.toInt ≤ 2600) (g_zm : 0 ≤ zm.toInt ∧ zm.toInt ≤ 2600) (g_zk : 0 ≤ zk.toInt ∧ zk.toInt ≤ 300) (hzs : zs.toInt ≤ 1000000) : kMi l yX12_choice wsX12_choice ({ frames := 1, cells := 0, slots := 0, locals := 21 } : Room) [.ref oM, .int i, .int wh] sz (dC, dI) vwCl [(cI, .int), (cS, .short)] [(oM, .inr (12, [.ref mT, .int zt, .ref mS, .ref mX, .int zp, .int zf, .ref mL, .ref mB, .ref mD, .ref m1, .ref m2, .int zh, .ref mR, .int zr, .ref x1, .ref x2, .ref x3, .int zc, .ref mH, .int zy, .int za, .int zb, .int zs, .int zq, .int zw, .int ze, .ref mY, .int zn, .ref mE, .int zm, .int zl, .ref mW, .int zk, .ref mO, .int zd, .ref y1, .ref y2, .ref y3, .ref y4, .ref mZ])), (mH, .inl (cI, 800, .inl eH))] (fun _ => True) 0 0 (fun (A : Nat → Prop) (r : Int32) (hh9 : Heap) => ∃ (ze' : Int32), kPD (dC, dI) vwCl A [(oM, .inr (12, [.ref mT, .int zt, .ref mS, .ref mX, .int zp, .int zf, .ref mL, .ref mB, .ref mD, .ref m1, .ref m2, .int zh, .ref mR, .int zr, .ref x1, .ref x2, .ref x3, .int zc, .ref mH, .int zy, .int za, .int zb, .int zs, .int zq, .int zw, .int ze', .ref mY, .int zn, .ref mE, .int zm, .int zl, .ref mW, .int zk, .ref mO, .int zd, .ref y1, .ref y2, .ref y3, .ref y4, .ref mZ])), (mH, .inl (cI, 800, .inl eH))] hh9) := by
  refine kMi_of (cc := cX12_choice) (maxL := 3) (ret := (some .int)) (lv := [(0, .ref oM), (1, .int i), (2, .int wh)]) (by decide +kernel) rfl rfl (Nat.le_of_ble_eq_true rfl) ?_
  intro p e s m below meth c A QQ ls hx hb hr hts hml hown hlocks hA hQQ hK hX hP hD hS hl
  have hown : s.vm.findClass RX12 = some m.cls := hown
  have hcf := k_cf hx hb hml hown hts
  have in_X12 : ∀ w ∈ wsX120, w ∈ wsX12_choice := fun _ h => List.mem_cons_of_mem _ (List.mem_append_right _ (h))
  replace g_zt := hid g_zt
  replace g_zp := hid g_zp
  replace g_zf := hid g_zf
  replace g_zh := hid g_zh
  replace g_zr := hid g_zr
  replace g_zc := hid g_zc
  replace g_za := hid g_za
  replace g_zb := hid g_zb
  replace g_zs := hid g_zs
  replace g_zq := hid g_zq
  replace g_zn := hid g_zn
  replace g_zm := hid g_zm
  replace g_zk := hid g_zk
  refine lv_aload_n hx hb dX12_choice_0 rfl (lv_at hl 0 rfl) ?_
  refine lv_iconst (v := 0) hx hb dX12_choice_1 (by decide) ?_
  refine va_put (D := (dC, dI)) (ci := 12) (v := .int 0) (ty := .int) (C := RX12) (T := TX12) (N := 40) hx hb hts in_X12 tyX12 tyX12_ok nmX12 hown hK hP hD hS 0 rfl rfl 25 (by decide) (hts (.fieldLink RX12 85 "TextMenderModel" "thrown" "I") (List.mem_of_getElem? (i := 1) rfl)) (fun _ h9 => h9) rfl (by decide +kernel) rfl rfl (Nat.le_of_ble_eq_true rfl) dX12_choice_2 (kW (wn := [(oM, .inr (12, [.ref mT, .int zt, .ref mS, .ref mX, .int zp, .int zf, .ref mL, .ref mB, .ref mD, .ref m1, .ref m2, .int zh, .ref mR, .int zr, .ref x1, .ref x2, .ref x3, .int zc, .ref mH, .int zy, .int za, .int zb, .int zs, .int zq, .int zw, .int 0, .ref mY, .int zn, .ref mE, .int zm, .int zl, .ref mW, .int zk, .ref mO, .int zd, .ref y1, .ref y2, .ref y3, .ref y4, .ref mZ])), (mH, .inl (cI, 800, .inl eH))]) rfl (fun H locs hPn hDn hSn => ?_))
  clear hP hD hS
  have hP := hPn
  have hD := hDn
  have hS := hSn
  clear hPn hDn hSn
  refine lv_aload_n hx hb dX12_choice_5 rfl (lv_at hl 0 rfl) ?_
  refine lv_iload_n hx hb dX12_choice_6 rfl (lv_at hl 1 rfl) ?_
  refine kV_i (rest := []) (q0 := 0) (ci := 12) hcf (m_X12_isToldChoice l dC dI cI cS H.size oM mT mS mX mL mB mD m1 m2 mR x1 x2 x3 mH mY mE mW mO y1 y2 y3 y4 mZ zt zp zf zh zr zc zy za zb zs zq zw 0 zn zm zl zk zd i (g_zt) (g_zp) (g_zf) (g_zh) (g_zr) (g_zc) (g_zy) (g_za) (g_zb) (g_zs) (g_zq) (g_zn) (g_zm) (g_zk)) kc_X12_isToldChoice gX12_choice_X12_isToldChoice rfl rfl rfl ⟨Nat.le_of_ble_eq_true rfl, Nat.le_of_ble_eq_true rfl⟩ kX_t hK hP hD hS hA [0] [1] rfl (by decide +kernel) rfl rfl rfl hl rfl (Nat.le_of_ble_eq_true rfl) dX12_choice_7 ⟨Nat.le_of_ble_eq_true rfl, Nat.le_of_ble_eq_true rfl⟩ (fun r_1 H locs hB hJ hSn => ?_)
  obtain ⟨⟨hP1, hD1⟩, hf1_0, hf1_1⟩ := hB
  obtain ⟨hPn, hDn⟩ := hJ _ hP1 hD1 [(mH, .inl (cI, 800, .inl eH)), (oM, .inr (12, [.ref mT, .int zt, .ref mS, .ref mX, .int zp, .int zf, .ref mL, .ref mB, .ref mD, .ref m1, .ref m2, .int zh, .ref mR, .int zr, .ref x1, .ref x2, .ref x3, .int zc, .ref mH, .int zy, .int za, .int zb, .int zs, .int zq, .int zw, .int 0, .ref mY, .int zn, .ref mE, .int zm, .int zl, .ref mW, .int zk, .ref mO, .int zd, .ref y1, .ref y2, .ref y3, .ref y4, .ref mZ]))] rfl
  clear hP hD hS hJ hP1 hD1
  have hP := hPn
  have hD := hDn
  have hS := hSn
  clear hPn hDn hSn
  refine lv_if_eq (tgt := 35) hx hb dX12_choice_10 (by decide) (fun c_2 => ?_) (fun c_2 => ?_)
  · have tc_2 : r_1.toInt = 0 := v_eq c_2
    refine lv_iconst (v := (-1)) hx hb dX12_choice_35 (by decide) ?_
    exact kl_i (v := (-1)) hQQ hx hb hr hlocks hS dX12_choice_36 ⟨0, kPD_sub hP hD [1, 0] (by decide +kernel) rfl⟩
  · have tc_2 : ¬ r_1.toInt = 0 := v_ne c_2
    refine lv_iload_n hx hb dX12_choice_13 rfl (lv_at hl 2 rfl) ?_
    refine lv_if_lt (tgt := 35) hx hb dX12_choice_14 (by decide) (fun c_3 => ?_) (fun c_3 => ?_)
    · have tc_3 : wh.toInt < 0 := v_lt c_3
      refine lv_iconst (v := (-1)) hx hb dX12_choice_35 (by decide) ?_
      exact kl_i (v := (-1)) hQQ hx hb hr hlocks hS dX12_choice_36 ⟨0, kPD_sub hP hD [1, 0] (by decide +kernel) rfl⟩
    · have tc_3 : 0 ≤ wh.toInt := v_nlt c_3
      refine lv_iload_n hx hb dX12_choice_17 rfl (lv_at hl 2 rfl) ?_
      refine lv_iconst (v := 4) hx hb dX12_choice_18 (by decide) ?_
      refine lv_icmp_ge (tgt := 35) hx hb dX12_choice_19 (by decide) (fun c_4 => ?_) (fun c_4 => ?_)
      · have tc_4 : 4 ≤ wh.toInt := v_le c_4
        refine lv_iconst (v := (-1)) hx hb dX12_choice_35 (by decide) ?_
        exact kl_i (v := (-1)) hQQ hx hb hr hlocks hS dX12_choice_36 ⟨0, kPD_sub hP hD [1, 0] (by decide +kernel) rfl⟩
      · have tc_4 : wh.toInt < 4 := v_nle c_4
        refine lv_aload_n hx hb dX12_choice_22 rfl (lv_at hl 0 rfl) ?_
        refine va_get (D := (dC, dI)) (ci := 12) (v := .ref mH) (C := RX12) (T := TX12) (N := 40) hx hb hts in_X12 hown hK hP 1 rfl rfl 18 (by decide) (hts (.fieldLink RX12 48 "TextMenderModel" "choices" "[I") (List.mem_of_getElem? (i := 2) rfl)) (fun _ h9 => h9) rfl dX12_choice_23 ?_
        refine lv_iconst (v := 4) hx hb dX12_choice_26 (by decide) ?_
        refine lv_iload_n hx hb dX12_choice_27 rfl (lv_at hl 1 rfl) ?_
        refine lv_imul hx hb dX12_choice_28 ?_
        refine lv_topi (fun x_5 ex_5 => ?_)
        have tx_5 : x_5.toInt = 4 * i.toInt := v_mul ex_5 (by show -2147483648 ≤ 4 * i.toInt; omega) (by show 4 * i.toInt < 2147483648; omega)
        refine lv_iload_n hx hb dX12_choice_29 rfl (lv_at hl 2 rfl) ?_
        refine lv_iadd hx hb dX12_choice_30 ?_
        refine lv_topi (fun x_6 ex_6 => ?_)
        have tx_6 : x_6.toInt = x_5.toInt + wh.toInt := v_add ex_6 (by show -2147483648 ≤ x_5.toInt + wh.toInt; omega) (by show x_5.toInt + wh.toInt < 2147483648; omega)
        refine va_iald hx hb hK hP 0 0 rfl rfl (v_in (by omega)) dX12_choice_31 ?_
        refine lv_topi (fun x_7 ex_7 => ?_)
        refine lv_goto (tgt := 36) hx hb dX12_choice_32 (by decide) ?_
        exact kl_i (v := x_7) hQQ hx hb hr hlocks hS dX12_choice_36 ⟨0, kPD_sub hP hD [1, 0] (by decide +kernel) rfl⟩

end

/-! 57.a.rows -/
section
set_option maxRecDepth 100000 in
theorem dA206_cX1_forgetFreshness : kDec cX1_forgetFreshness [(0, .aload_n 0, 1), (1, .iconst 0, 1), (2, .putfield 72, 3), (5, .return_, 1)] = true := by decide +kernel
theorem dX1_forgetFreshness_0 : decode cX1_forgetFreshness 0 = .ok (.aload_n 0, 1) := kDec_at dA206_cX1_forgetFreshness 0 rfl
theorem dX1_forgetFreshness_1 : decode cX1_forgetFreshness 1 = .ok (.iconst 0, 1) := kDec_at dA206_cX1_forgetFreshness 1 rfl
theorem dX1_forgetFreshness_2 : decode cX1_forgetFreshness 2 = .ok (.putfield 72, 3) := kDec_at dA206_cX1_forgetFreshness 2 rfl
theorem dX1_forgetFreshness_5 : decode cX1_forgetFreshness 5 = .ok (.return_, 1) := kDec_at dA206_cX1_forgetFreshness 3 rfl
set_option maxRecDepth 100000 in
theorem dA207_cX11_feed : kDec cX11_feed [(0, .aload_n 0, 1), (1, .getfield 30, 3), (4, .invokevirtual 94, 3), (7, .iconst 5, 1), (8, .iadd, 1), (9, .sipush 900, 3), (12, .if_icmp .le 5, 3), (17, .aload_n 0, 1), (18, .getfield 30, 3), (21, .iload_n 1, 1), (22, .invokevirtual 98, 3), (25, .pop, 1), (26, .aload_n 0, 1), (27, .getfield 30, 3), (30, .iload_n 2, 1), (31, .invokevirtual 98, 3), (34, .pop, 1), (35, .aload_n 0, 1), (36, .getfield 30, 3), (39, .iload_n 3, 1), (40, .invokevirtual 98, 3), (43, .pop, 1), (44, .aload_n 0, 1), (45, .getfield 30, 3)] = true := by decide +kernel
theorem dX11_feed_0 : decode cX11_feed 0 = .ok (.aload_n 0, 1) := kDec_at dA207_cX11_feed 0 rfl
theorem dX11_feed_1 : decode cX11_feed 1 = .ok (.getfield 30, 3) := kDec_at dA207_cX11_feed 1 rfl
theorem dX11_feed_4 : decode cX11_feed 4 = .ok (.invokevirtual 94, 3) := kDec_at dA207_cX11_feed 2 rfl
theorem dX11_feed_7 : decode cX11_feed 7 = .ok (.iconst 5, 1) := kDec_at dA207_cX11_feed 3 rfl
theorem dX11_feed_8 : decode cX11_feed 8 = .ok (.iadd, 1) := kDec_at dA207_cX11_feed 4 rfl
theorem dX11_feed_9 : decode cX11_feed 9 = .ok (.sipush 900, 3) := kDec_at dA207_cX11_feed 5 rfl
theorem dX11_feed_12 : decode cX11_feed 12 = .ok (.if_icmp .le 5, 3) := kDec_at dA207_cX11_feed 6 rfl
theorem dX11_feed_17 : decode cX11_feed 17 = .ok (.aload_n 0, 1) := kDec_at dA207_cX11_feed 7 rfl
theorem dX11_feed_18 : decode cX11_feed 18 = .ok (.getfield 30, 3) := kDec_at dA207_cX11_feed 8 rfl
theorem dX11_feed_21 : decode cX11_feed 21 = .ok (.iload_n 1, 1) := kDec_at dA207_cX11_feed 9 rfl
theorem dX11_feed_22 : decode cX11_feed 22 = .ok (.invokevirtual 98, 3) := kDec_at dA207_cX11_feed 10 rfl
theorem dX11_feed_25 : decode cX11_feed 25 = .ok (.pop, 1) := kDec_at dA207_cX11_feed 11 rfl
theorem dX11_feed_26 : decode cX11_feed 26 = .ok (.aload_n 0, 1) := kDec_at dA207_cX11_feed 12 rfl
theorem dX11_feed_27 : decode cX11_feed 27 = .ok (.getfield 30, 3) := kDec_at dA207_cX11_feed 13 rfl
theorem dX11_feed_30 : decode cX11_feed 30 = .ok (.iload_n 2, 1) := kDec_at dA207_cX11_feed 14 rfl
theorem dX11_feed_31 : decode cX11_feed 31 = .ok (.invokevirtual 98, 3) := kDec_at dA207_cX11_feed 15 rfl
theorem dX11_feed_34 : decode cX11_feed 34 = .ok (.pop, 1) := kDec_at dA207_cX11_feed 16 rfl
theorem dX11_feed_35 : decode cX11_feed 35 = .ok (.aload_n 0, 1) := kDec_at dA207_cX11_feed 17 rfl
theorem dX11_feed_36 : decode cX11_feed 36 = .ok (.getfield 30, 3) := kDec_at dA207_cX11_feed 18 rfl
theorem dX11_feed_39 : decode cX11_feed 39 = .ok (.iload_n 3, 1) := kDec_at dA207_cX11_feed 19 rfl
theorem dX11_feed_40 : decode cX11_feed 40 = .ok (.invokevirtual 98, 3) := kDec_at dA207_cX11_feed 20 rfl
theorem dX11_feed_43 : decode cX11_feed 43 = .ok (.pop, 1) := kDec_at dA207_cX11_feed 21 rfl
theorem dX11_feed_44 : decode cX11_feed 44 = .ok (.aload_n 0, 1) := kDec_at dA207_cX11_feed 22 rfl
theorem dX11_feed_45 : decode cX11_feed 45 = .ok (.getfield 30, 3) := kDec_at dA207_cX11_feed 23 rfl
set_option maxRecDepth 20000 in
theorem ggX11_feed_X5_length : GoodIn wsX11_feed wsX5_length := goodIn_r _ [6, 7, 25, 26] rfl (by decide +kernel)
set_option maxRecDepth 20000 in
theorem gX11_feed_X5_length : GoodIn wsX11_feed (wsV RX11 94 RX5 yX5_length wsX5_length) := goodIn_app (goodIn_r _ [2, 3, 4, 5] rfl (by decide +kernel)) ggX11_feed_X5_length
set_option maxRecDepth 20000 in
theorem ggX11_feed_X5_add : GoodIn wsX11_feed wsX5_add := goodIn_r _ [11, 7, 12, 25, 26] rfl (by decide +kernel)
set_option maxRecDepth 20000 in
theorem gX11_feed_X5_add : GoodIn wsX11_feed (wsV RX11 98 RX5 yX5_add wsX5_add) := goodIn_app (goodIn_r _ [8, 9, 10, 5] rfl (by decide +kernel)) ggX11_feed_X5_add
set_option maxRecDepth 100000 in
theorem dA208_cX11_feed : kDec cX11_feed [(48, .iload 4, 2), (50, .invokevirtual 98, 3), (53, .pop, 1), (54, .aload_n 0, 1), (55, .getfield 30, 3), (58, .iload 5, 2), (60, .invokevirtual 98, 3), (63, .pop, 1), (64, .aload_n 0, 1), (65, .getfield 30, 3), (68, .invokevirtual 94, 3), (71, .ireturn, 1), (15, .iconst (-1), 1), (16, .ireturn, 1)] = true := by decide +kernel
theorem dX11_feed_48 : decode cX11_feed 48 = .ok (.iload 4, 2) := kDec_at dA208_cX11_feed 0 rfl
theorem dX11_feed_50 : decode cX11_feed 50 = .ok (.invokevirtual 98, 3) := kDec_at dA208_cX11_feed 1 rfl
theorem dX11_feed_53 : decode cX11_feed 53 = .ok (.pop, 1) := kDec_at dA208_cX11_feed 2 rfl
theorem dX11_feed_54 : decode cX11_feed 54 = .ok (.aload_n 0, 1) := kDec_at dA208_cX11_feed 3 rfl
theorem dX11_feed_55 : decode cX11_feed 55 = .ok (.getfield 30, 3) := kDec_at dA208_cX11_feed 4 rfl
theorem dX11_feed_58 : decode cX11_feed 58 = .ok (.iload 5, 2) := kDec_at dA208_cX11_feed 5 rfl
theorem dX11_feed_60 : decode cX11_feed 60 = .ok (.invokevirtual 98, 3) := kDec_at dA208_cX11_feed 6 rfl
theorem dX11_feed_63 : decode cX11_feed 63 = .ok (.pop, 1) := kDec_at dA208_cX11_feed 7 rfl
theorem dX11_feed_64 : decode cX11_feed 64 = .ok (.aload_n 0, 1) := kDec_at dA208_cX11_feed 8 rfl
theorem dX11_feed_65 : decode cX11_feed 65 = .ok (.getfield 30, 3) := kDec_at dA208_cX11_feed 9 rfl
theorem dX11_feed_68 : decode cX11_feed 68 = .ok (.invokevirtual 94, 3) := kDec_at dA208_cX11_feed 10 rfl
theorem dX11_feed_71 : decode cX11_feed 71 = .ok (.ireturn, 1) := kDec_at dA208_cX11_feed 11 rfl
theorem dX11_feed_15 : decode cX11_feed 15 = .ok (.iconst (-1), 1) := kDec_at dA208_cX11_feed 12 rfl
theorem dX11_feed_16 : decode cX11_feed 16 = .ok (.ireturn, 1) := kDec_at dA208_cX11_feed 13 rfl
set_option maxRecDepth 100000 in
theorem dA209_cX12_feed : kDec cX12_feed [(0, .aload_n 0, 1), (1, .iconst 0, 1), (2, .putfield 85, 3), (5, .aload_n 0, 1), (6, .getfield 151, 3), (9, .iconst 5, 1), (10, .iadd, 1), (11, .sipush 900, 3), (14, .if_icmp .le 5, 3), (19, .aload_n 0, 1), (20, .getfield 9, 3), (23, .aload_n 0, 1), (24, .getfield 151, 3), (27, .iload_n 1, 1), (28, .iastore, 1), (29, .aload_n 0, 1), (30, .getfield 9, 3), (33, .aload_n 0, 1), (34, .getfield 151, 3), (37, .iconst 1, 1), (38, .iadd, 1), (39, .iload_n 2, 1), (40, .iastore, 1), (41, .aload_n 0, 1)] = true := by decide +kernel
theorem dX12_feed_0 : decode cX12_feed 0 = .ok (.aload_n 0, 1) := kDec_at dA209_cX12_feed 0 rfl
theorem dX12_feed_1 : decode cX12_feed 1 = .ok (.iconst 0, 1) := kDec_at dA209_cX12_feed 1 rfl
theorem dX12_feed_2 : decode cX12_feed 2 = .ok (.putfield 85, 3) := kDec_at dA209_cX12_feed 2 rfl
theorem dX12_feed_5 : decode cX12_feed 5 = .ok (.aload_n 0, 1) := kDec_at dA209_cX12_feed 3 rfl
theorem dX12_feed_6 : decode cX12_feed 6 = .ok (.getfield 151, 3) := kDec_at dA209_cX12_feed 4 rfl
theorem dX12_feed_9 : decode cX12_feed 9 = .ok (.iconst 5, 1) := kDec_at dA209_cX12_feed 5 rfl
theorem dX12_feed_10 : decode cX12_feed 10 = .ok (.iadd, 1) := kDec_at dA209_cX12_feed 6 rfl
theorem dX12_feed_11 : decode cX12_feed 11 = .ok (.sipush 900, 3) := kDec_at dA209_cX12_feed 7 rfl
theorem dX12_feed_14 : decode cX12_feed 14 = .ok (.if_icmp .le 5, 3) := kDec_at dA209_cX12_feed 8 rfl
theorem dX12_feed_19 : decode cX12_feed 19 = .ok (.aload_n 0, 1) := kDec_at dA209_cX12_feed 9 rfl
theorem dX12_feed_20 : decode cX12_feed 20 = .ok (.getfield 9, 3) := kDec_at dA209_cX12_feed 10 rfl
theorem dX12_feed_23 : decode cX12_feed 23 = .ok (.aload_n 0, 1) := kDec_at dA209_cX12_feed 11 rfl
theorem dX12_feed_24 : decode cX12_feed 24 = .ok (.getfield 151, 3) := kDec_at dA209_cX12_feed 12 rfl
theorem dX12_feed_27 : decode cX12_feed 27 = .ok (.iload_n 1, 1) := kDec_at dA209_cX12_feed 13 rfl
theorem dX12_feed_28 : decode cX12_feed 28 = .ok (.iastore, 1) := kDec_at dA209_cX12_feed 14 rfl
theorem dX12_feed_29 : decode cX12_feed 29 = .ok (.aload_n 0, 1) := kDec_at dA209_cX12_feed 15 rfl
theorem dX12_feed_30 : decode cX12_feed 30 = .ok (.getfield 9, 3) := kDec_at dA209_cX12_feed 16 rfl
theorem dX12_feed_33 : decode cX12_feed 33 = .ok (.aload_n 0, 1) := kDec_at dA209_cX12_feed 17 rfl
theorem dX12_feed_34 : decode cX12_feed 34 = .ok (.getfield 151, 3) := kDec_at dA209_cX12_feed 18 rfl
theorem dX12_feed_37 : decode cX12_feed 37 = .ok (.iconst 1, 1) := kDec_at dA209_cX12_feed 19 rfl
theorem dX12_feed_38 : decode cX12_feed 38 = .ok (.iadd, 1) := kDec_at dA209_cX12_feed 20 rfl
theorem dX12_feed_39 : decode cX12_feed 39 = .ok (.iload_n 2, 1) := kDec_at dA209_cX12_feed 21 rfl
theorem dX12_feed_40 : decode cX12_feed 40 = .ok (.iastore, 1) := kDec_at dA209_cX12_feed 22 rfl
theorem dX12_feed_41 : decode cX12_feed 41 = .ok (.aload_n 0, 1) := kDec_at dA209_cX12_feed 23 rfl
set_option maxRecDepth 100000 in
theorem dA210_cX12_feed : kDec cX12_feed [(42, .getfield 9, 3), (45, .aload_n 0, 1), (46, .getfield 151, 3), (49, .iconst 2, 1), (50, .iadd, 1), (51, .iload_n 3, 1), (52, .iastore, 1), (53, .aload_n 0, 1), (54, .getfield 9, 3), (57, .aload_n 0, 1), (58, .getfield 151, 3), (61, .iconst 3, 1), (62, .iadd, 1), (63, .iload 4, 2), (65, .iastore, 1), (66, .aload_n 0, 1), (67, .getfield 9, 3), (70, .aload_n 0, 1), (71, .getfield 151, 3), (74, .iconst 4, 1), (75, .iadd, 1), (76, .iload 5, 2), (78, .iastore, 1), (79, .aload_n 0, 1)] = true := by decide +kernel
theorem dX12_feed_42 : decode cX12_feed 42 = .ok (.getfield 9, 3) := kDec_at dA210_cX12_feed 0 rfl
theorem dX12_feed_45 : decode cX12_feed 45 = .ok (.aload_n 0, 1) := kDec_at dA210_cX12_feed 1 rfl
theorem dX12_feed_46 : decode cX12_feed 46 = .ok (.getfield 151, 3) := kDec_at dA210_cX12_feed 2 rfl
theorem dX12_feed_49 : decode cX12_feed 49 = .ok (.iconst 2, 1) := kDec_at dA210_cX12_feed 3 rfl
theorem dX12_feed_50 : decode cX12_feed 50 = .ok (.iadd, 1) := kDec_at dA210_cX12_feed 4 rfl
theorem dX12_feed_51 : decode cX12_feed 51 = .ok (.iload_n 3, 1) := kDec_at dA210_cX12_feed 5 rfl
theorem dX12_feed_52 : decode cX12_feed 52 = .ok (.iastore, 1) := kDec_at dA210_cX12_feed 6 rfl
theorem dX12_feed_53 : decode cX12_feed 53 = .ok (.aload_n 0, 1) := kDec_at dA210_cX12_feed 7 rfl
theorem dX12_feed_54 : decode cX12_feed 54 = .ok (.getfield 9, 3) := kDec_at dA210_cX12_feed 8 rfl
theorem dX12_feed_57 : decode cX12_feed 57 = .ok (.aload_n 0, 1) := kDec_at dA210_cX12_feed 9 rfl
theorem dX12_feed_58 : decode cX12_feed 58 = .ok (.getfield 151, 3) := kDec_at dA210_cX12_feed 10 rfl
theorem dX12_feed_61 : decode cX12_feed 61 = .ok (.iconst 3, 1) := kDec_at dA210_cX12_feed 11 rfl
theorem dX12_feed_62 : decode cX12_feed 62 = .ok (.iadd, 1) := kDec_at dA210_cX12_feed 12 rfl
theorem dX12_feed_63 : decode cX12_feed 63 = .ok (.iload 4, 2) := kDec_at dA210_cX12_feed 13 rfl
theorem dX12_feed_65 : decode cX12_feed 65 = .ok (.iastore, 1) := kDec_at dA210_cX12_feed 14 rfl
theorem dX12_feed_66 : decode cX12_feed 66 = .ok (.aload_n 0, 1) := kDec_at dA210_cX12_feed 15 rfl
theorem dX12_feed_67 : decode cX12_feed 67 = .ok (.getfield 9, 3) := kDec_at dA210_cX12_feed 16 rfl
theorem dX12_feed_70 : decode cX12_feed 70 = .ok (.aload_n 0, 1) := kDec_at dA210_cX12_feed 17 rfl
theorem dX12_feed_71 : decode cX12_feed 71 = .ok (.getfield 151, 3) := kDec_at dA210_cX12_feed 18 rfl
theorem dX12_feed_74 : decode cX12_feed 74 = .ok (.iconst 4, 1) := kDec_at dA210_cX12_feed 19 rfl
theorem dX12_feed_75 : decode cX12_feed 75 = .ok (.iadd, 1) := kDec_at dA210_cX12_feed 20 rfl
theorem dX12_feed_76 : decode cX12_feed 76 = .ok (.iload 5, 2) := kDec_at dA210_cX12_feed 21 rfl
theorem dX12_feed_78 : decode cX12_feed 78 = .ok (.iastore, 1) := kDec_at dA210_cX12_feed 22 rfl
theorem dX12_feed_79 : decode cX12_feed 79 = .ok (.aload_n 0, 1) := kDec_at dA210_cX12_feed 23 rfl
set_option maxRecDepth 100000 in
theorem dA211_cX12_feed : kDec cX12_feed [(80, .dup, 1), (81, .getfield 151, 3), (84, .iconst 5, 1), (85, .iadd, 1), (86, .putfield 151, 3), (89, .aload_n 0, 1), (90, .getfield 151, 3), (93, .ireturn, 1), (17, .iconst (-1), 1), (18, .ireturn, 1)] = true := by decide +kernel
theorem dX12_feed_80 : decode cX12_feed 80 = .ok (.dup, 1) := kDec_at dA211_cX12_feed 0 rfl
theorem dX12_feed_81 : decode cX12_feed 81 = .ok (.getfield 151, 3) := kDec_at dA211_cX12_feed 1 rfl
theorem dX12_feed_84 : decode cX12_feed 84 = .ok (.iconst 5, 1) := kDec_at dA211_cX12_feed 2 rfl
theorem dX12_feed_85 : decode cX12_feed 85 = .ok (.iadd, 1) := kDec_at dA211_cX12_feed 3 rfl
theorem dX12_feed_86 : decode cX12_feed 86 = .ok (.putfield 151, 3) := kDec_at dA211_cX12_feed 4 rfl
theorem dX12_feed_89 : decode cX12_feed 89 = .ok (.aload_n 0, 1) := kDec_at dA211_cX12_feed 5 rfl
theorem dX12_feed_90 : decode cX12_feed 90 = .ok (.getfield 151, 3) := kDec_at dA211_cX12_feed 6 rfl
theorem dX12_feed_93 : decode cX12_feed 93 = .ok (.ireturn, 1) := kDec_at dA211_cX12_feed 7 rfl
theorem dX12_feed_17 : decode cX12_feed 17 = .ok (.iconst (-1), 1) := kDec_at dA211_cX12_feed 8 rfl
theorem dX12_feed_18 : decode cX12_feed 18 = .ok (.ireturn, 1) := kDec_at dA211_cX12_feed 9 rfl
set_option maxRecDepth 100000 in
theorem dA212_cX11_tapeHoldsLetters : kDec cX11_tapeHoldsLetters [(0, .iconst 0, 1), (1, .istore_n 1, 1), (2, .iload_n 1, 1), (3, .aload_n 0, 1), (4, .getfield 30, 3), (7, .invokevirtual 94, 3), (10, .if_icmp .ge 30, 3), (40, .iconst 1, 1), (41, .ireturn, 1), (13, .aload_n 0, 1), (14, .getfield 30, 3), (17, .iload_n 1, 1), (18, .invokevirtual 167, 3), (21, .invokestatic 205, 3), (24, .ifCond .ne 10, 3), (34, .iinc 1 1, 3), (37, .goto (-35), 3), (27, .aload_n 0, 1), (28, .iload_n 1, 1), (29, .putfield 90, 3), (32, .iconst 0, 1), (33, .ireturn, 1)] = true := by decide +kernel
theorem dX11_tapeHoldsLetters_0 : decode cX11_tapeHoldsLetters 0 = .ok (.iconst 0, 1) := kDec_at dA212_cX11_tapeHoldsLetters 0 rfl
theorem dX11_tapeHoldsLetters_1 : decode cX11_tapeHoldsLetters 1 = .ok (.istore_n 1, 1) := kDec_at dA212_cX11_tapeHoldsLetters 1 rfl
theorem dX11_tapeHoldsLetters_2 : decode cX11_tapeHoldsLetters 2 = .ok (.iload_n 1, 1) := kDec_at dA212_cX11_tapeHoldsLetters 2 rfl
theorem dX11_tapeHoldsLetters_3 : decode cX11_tapeHoldsLetters 3 = .ok (.aload_n 0, 1) := kDec_at dA212_cX11_tapeHoldsLetters 3 rfl
theorem dX11_tapeHoldsLetters_4 : decode cX11_tapeHoldsLetters 4 = .ok (.getfield 30, 3) := kDec_at dA212_cX11_tapeHoldsLetters 4 rfl
theorem dX11_tapeHoldsLetters_7 : decode cX11_tapeHoldsLetters 7 = .ok (.invokevirtual 94, 3) := kDec_at dA212_cX11_tapeHoldsLetters 5 rfl
theorem dX11_tapeHoldsLetters_10 : decode cX11_tapeHoldsLetters 10 = .ok (.if_icmp .ge 30, 3) := kDec_at dA212_cX11_tapeHoldsLetters 6 rfl
theorem dX11_tapeHoldsLetters_40 : decode cX11_tapeHoldsLetters 40 = .ok (.iconst 1, 1) := kDec_at dA212_cX11_tapeHoldsLetters 7 rfl
theorem dX11_tapeHoldsLetters_41 : decode cX11_tapeHoldsLetters 41 = .ok (.ireturn, 1) := kDec_at dA212_cX11_tapeHoldsLetters 8 rfl
theorem dX11_tapeHoldsLetters_13 : decode cX11_tapeHoldsLetters 13 = .ok (.aload_n 0, 1) := kDec_at dA212_cX11_tapeHoldsLetters 9 rfl
theorem dX11_tapeHoldsLetters_14 : decode cX11_tapeHoldsLetters 14 = .ok (.getfield 30, 3) := kDec_at dA212_cX11_tapeHoldsLetters 10 rfl
theorem dX11_tapeHoldsLetters_17 : decode cX11_tapeHoldsLetters 17 = .ok (.iload_n 1, 1) := kDec_at dA212_cX11_tapeHoldsLetters 11 rfl
theorem dX11_tapeHoldsLetters_18 : decode cX11_tapeHoldsLetters 18 = .ok (.invokevirtual 167, 3) := kDec_at dA212_cX11_tapeHoldsLetters 12 rfl
theorem dX11_tapeHoldsLetters_21 : decode cX11_tapeHoldsLetters 21 = .ok (.invokestatic 205, 3) := kDec_at dA212_cX11_tapeHoldsLetters 13 rfl
theorem dX11_tapeHoldsLetters_24 : decode cX11_tapeHoldsLetters 24 = .ok (.ifCond .ne 10, 3) := kDec_at dA212_cX11_tapeHoldsLetters 14 rfl
theorem dX11_tapeHoldsLetters_34 : decode cX11_tapeHoldsLetters 34 = .ok (.iinc 1 1, 3) := kDec_at dA212_cX11_tapeHoldsLetters 15 rfl
theorem dX11_tapeHoldsLetters_37 : decode cX11_tapeHoldsLetters 37 = .ok (.goto (-35), 3) := kDec_at dA212_cX11_tapeHoldsLetters 16 rfl
theorem dX11_tapeHoldsLetters_27 : decode cX11_tapeHoldsLetters 27 = .ok (.aload_n 0, 1) := kDec_at dA212_cX11_tapeHoldsLetters 17 rfl
theorem dX11_tapeHoldsLetters_28 : decode cX11_tapeHoldsLetters 28 = .ok (.iload_n 1, 1) := kDec_at dA212_cX11_tapeHoldsLetters 18 rfl
theorem dX11_tapeHoldsLetters_29 : decode cX11_tapeHoldsLetters 29 = .ok (.putfield 90, 3) := kDec_at dA212_cX11_tapeHoldsLetters 19 rfl
theorem dX11_tapeHoldsLetters_32 : decode cX11_tapeHoldsLetters 32 = .ok (.iconst 0, 1) := kDec_at dA212_cX11_tapeHoldsLetters 20 rfl
theorem dX11_tapeHoldsLetters_33 : decode cX11_tapeHoldsLetters 33 = .ok (.ireturn, 1) := kDec_at dA212_cX11_tapeHoldsLetters 21 rfl
set_option maxRecDepth 20000 in
theorem ggX11_tapeHoldsLetters_X5_length : GoodIn wsX11_tapeHoldsLetters wsX5_length := goodIn_r _ [7, 8, 33, 34] rfl (by decide +kernel)
set_option maxRecDepth 20000 in
theorem gX11_tapeHoldsLetters_X5_length : GoodIn wsX11_tapeHoldsLetters (wsV RX11 94 RX5 yX5_length wsX5_length) := goodIn_app (goodIn_r _ [3, 4, 5, 6] rfl (by decide +kernel)) ggX11_tapeHoldsLetters_X5_length
set_option maxRecDepth 20000 in
theorem ggX11_tapeHoldsLetters_X5_get : GoodIn wsX11_tapeHoldsLetters wsX5_get := goodIn_r _ [12, 8, 13, 33, 34] rfl (by decide +kernel)
set_option maxRecDepth 20000 in
theorem gX11_tapeHoldsLetters_X5_get : GoodIn wsX11_tapeHoldsLetters (wsV RX11 167 RX5 yX5_get wsX5_get) := goodIn_app (goodIn_r _ [9, 10, 11, 6] rfl (by decide +kernel)) ggX11_tapeHoldsLetters_X5_get
set_option maxRecDepth 20000 in
theorem ggX11_tapeHoldsLetters_X11_isLetter : GoodIn wsX11_tapeHoldsLetters wsX11_isLetter := goodIn_r _ [17, 18, 19, 20] rfl (by decide +kernel)
set_option maxRecDepth 20000 in
theorem gX11_tapeHoldsLetters_X11_isLetter : GoodIn wsX11_tapeHoldsLetters (va_wsS RX11 205 yX11_isLetter wsX11_isLetter) := goodIn_app (goodIn_r _ [14, 15, 16] rfl (by decide +kernel)) ggX11_tapeHoldsLetters_X11_isLetter

end

/-! 57.fresh -/
section
/-! a choice is fresh until something changes -/
def F_fs (no : Int) (r fsh fsh' : Int32) : Prop := (r.toInt = no ∧ fsh' = fsh) ∨ (¬ r.toInt = no ∧ fsh' = 0)
def F_fsP (P : Prop) (fsh fsh' : Int32) : Prop := (P ∧ fsh' = 0) ∨ (¬ P ∧ fsh' = fsh)
def F_zsP (P : Prop) (zs zs' : Int32) : Prop := (P ∧ zs'.toInt = zs.toInt + 1) ∨ (¬ P ∧ zs' = zs)
def F_zs (no : Int) (r zs zs' : Int32) : Prop := (r.toInt = no ∧ zs' = zs) ∨ (¬ r.toInt = no ∧ zs'.toInt = zs.toInt + 1)

set_option maxHeartbeats 40000000 in
set_option maxRecDepth 100000 in
theorem f_X1_forgetFreshness (l : Launch) (dC : Nat → ClassId) (dI : Nat → Nat → Nat) (cI cS : ClassId) (sz : Nat) (oW : Nat) (oC : Nat) (oK : Nat) (nw : Nat) (w1 : Nat) (w2 : Nat) (w3 : Nat) (o7 : Nat) (o8 : Nat) (o9 : Nat) (w4 : Nat) (w5 : Nat) (w6 : Nat) (w7 : Nat) (ke : Int32) (tl : Int32) (fsh : Int32) (wi : Int32) (ri : Int32) (fm : Int32) (lm : Int32) (g_ke : 0 ≤ ke.toInt ∧ ke.toInt ≤ 200) (g_fsh : 0 ≤ fsh.toInt ∧ fsh.toInt ≤ 1) (g_fm : -1 ≤ fm.toInt ∧ fm.toInt ≤ 800) (g_lm : -1 ≤ lm.toInt ∧ lm.toInt ≤ 800) : kMv l yX1_forgetFreshness wsX1_forgetFreshness ({ frames := 0, cells := 0, slots := 0, locals := 0 } : Room) [.ref oW] sz (dC, dI) vwCl [(cI, .int), (cS, .short)] [(oW, .inr (1, [.ref oC, .ref oK, .ref nw, .ref w1, .ref w2, .ref w3, .ref o7, .ref o8, .ref o9, .ref w4, .ref w5, .ref w6, .ref w7, .int ke, .int tl, .int fsh, .int wi, .int ri, .int fm, .int lm]))] (fun _ => True) 0 0 (fun (A : Nat → Prop) (hh9 : Heap) => ∃ (fsh' : Int32), kPD (dC, dI) vwCl A [(oW, .inr (1, [.ref oC, .ref oK, .ref nw, .ref w1, .ref w2, .ref w3, .ref o7, .ref o8, .ref o9, .ref w4, .ref w5, .ref w6, .ref w7, .int ke, .int tl, .int fsh', .int wi, .int ri, .int fm, .int lm]))] hh9 ∧ (0 ≤ fsh'.toInt ∧ fsh'.toInt ≤ 1) ∧ (fsh' = 0)) := by
  refine kMv_of (cc := cX1_forgetFreshness) (maxL := 1) (ret := none) (lv := [(0, .ref oW)]) (by decide +kernel) rfl rfl (Nat.le_of_ble_eq_true rfl) ?_
  intro p e s m below meth c A QQ ls hx hb hr hts hml hown hlocks hA hQQ hK hX hP hD hS hl
  have hown : s.vm.findClass RX1 = some m.cls := hown
  have hcf := k_cf hx hb hml hown hts
  have in_X1 : ∀ w ∈ wsX10, w ∈ wsX1_forgetFreshness := fun _ h => List.mem_cons_of_mem _ (List.mem_append_right _ (h))
  replace g_ke := hid g_ke
  replace g_fsh := hid g_fsh
  replace g_fm := hid g_fm
  replace g_lm := hid g_lm
  refine lv_aload_n hx hb dX1_forgetFreshness_0 rfl (lv_at hl 0 rfl) ?_
  refine lv_iconst (v := 0) hx hb dX1_forgetFreshness_1 (by decide) ?_
  refine va_put (D := (dC, dI)) (ci := 1) (v := .int 0) (ty := .boolean) (C := RX1) (T := TX1) (N := 20) hx hb hts in_X1 tyX1 tyX1_ok nmX1 hown hK hP hD hS 0 rfl rfl 15 (by decide) (hts (.fieldLink RX1 72 "TextMender$Choices" "fresh" "Z") (List.mem_of_getElem? (i := 1) rfl)) (fun _ h9 => h9) rfl (by decide +kernel) rfl rfl (Nat.le_of_ble_eq_true rfl) dX1_forgetFreshness_2 (kW (wn := [(oW, .inr (1, [.ref oC, .ref oK, .ref nw, .ref w1, .ref w2, .ref w3, .ref o7, .ref o8, .ref o9, .ref w4, .ref w5, .ref w6, .ref w7, .int ke, .int tl, .int 0, .int wi, .int ri, .int fm, .int lm]))]) rfl (fun H locs hPn hDn hSn => ?_))
  clear hP hD hS
  have hP := hPn
  have hD := hDn
  have hS := hSn
  clear hPn hDn hSn
  exact kl_v hQQ hx hb hr hlocks hS dX1_forgetFreshness_5 ⟨0, ⟨hP, hD⟩, by decide, rfl⟩

end
