/-! 59l.a.rows -/
section
set_option maxRecDepth 100000 in
theorem dA267_cX12_harm : kDec cX12_harm [(0, .aload_n 0, 1), (1, .iconst 0, 1), (2, .putfield 85, 3), (5, .aload_n 0, 1), (6, .iconst (-1), 1), (7, .putfield 55, 3), (10, .iload_n 1, 1), (11, .invokestatic 158, 3), (14, .ifCond .eq 10, 3), (24, .iconst (-1), 1), (25, .ireturn, 1), (17, .iload_n 2, 1), (18, .invokestatic 158, 3), (21, .ifCond .ne 5, 3), (26, .aload_n 0, 1), (27, .iload_n 1, 1), (28, .iload_n 2, 1), (29, .aload_n 0, 1), (30, .getfield 16, 3), (33, .aload_n 0, 1), (34, .getfield 13, 3), (37, .iconst 0, 1), (38, .iaload, 1), (39, .invokevirtual 138, 3)] = true := by decide +kernel
theorem dX12_harm_0 : decode cX12_harm 0 = .ok (.aload_n 0, 1) := kDec_at dA267_cX12_harm 0 rfl
theorem dX12_harm_1 : decode cX12_harm 1 = .ok (.iconst 0, 1) := kDec_at dA267_cX12_harm 1 rfl
theorem dX12_harm_2 : decode cX12_harm 2 = .ok (.putfield 85, 3) := kDec_at dA267_cX12_harm 2 rfl
theorem dX12_harm_5 : decode cX12_harm 5 = .ok (.aload_n 0, 1) := kDec_at dA267_cX12_harm 3 rfl
theorem dX12_harm_6 : decode cX12_harm 6 = .ok (.iconst (-1), 1) := kDec_at dA267_cX12_harm 4 rfl
theorem dX12_harm_7 : decode cX12_harm 7 = .ok (.putfield 55, 3) := kDec_at dA267_cX12_harm 5 rfl
theorem dX12_harm_10 : decode cX12_harm 10 = .ok (.iload_n 1, 1) := kDec_at dA267_cX12_harm 6 rfl
theorem dX12_harm_11 : decode cX12_harm 11 = .ok (.invokestatic 158, 3) := kDec_at dA267_cX12_harm 7 rfl
theorem dX12_harm_14 : decode cX12_harm 14 = .ok (.ifCond .eq 10, 3) := kDec_at dA267_cX12_harm 8 rfl
theorem dX12_harm_24 : decode cX12_harm 24 = .ok (.iconst (-1), 1) := kDec_at dA267_cX12_harm 9 rfl
theorem dX12_harm_25 : decode cX12_harm 25 = .ok (.ireturn, 1) := kDec_at dA267_cX12_harm 10 rfl
theorem dX12_harm_17 : decode cX12_harm 17 = .ok (.iload_n 2, 1) := kDec_at dA267_cX12_harm 11 rfl
theorem dX12_harm_18 : decode cX12_harm 18 = .ok (.invokestatic 158, 3) := kDec_at dA267_cX12_harm 12 rfl
theorem dX12_harm_21 : decode cX12_harm 21 = .ok (.ifCond .ne 5, 3) := kDec_at dA267_cX12_harm 13 rfl
theorem dX12_harm_26 : decode cX12_harm 26 = .ok (.aload_n 0, 1) := kDec_at dA267_cX12_harm 14 rfl
theorem dX12_harm_27 : decode cX12_harm 27 = .ok (.iload_n 1, 1) := kDec_at dA267_cX12_harm 15 rfl
theorem dX12_harm_28 : decode cX12_harm 28 = .ok (.iload_n 2, 1) := kDec_at dA267_cX12_harm 16 rfl
theorem dX12_harm_29 : decode cX12_harm 29 = .ok (.aload_n 0, 1) := kDec_at dA267_cX12_harm 17 rfl
theorem dX12_harm_30 : decode cX12_harm 30 = .ok (.getfield 16, 3) := kDec_at dA267_cX12_harm 18 rfl
theorem dX12_harm_33 : decode cX12_harm 33 = .ok (.aload_n 0, 1) := kDec_at dA267_cX12_harm 19 rfl
theorem dX12_harm_34 : decode cX12_harm 34 = .ok (.getfield 13, 3) := kDec_at dA267_cX12_harm 20 rfl
theorem dX12_harm_37 : decode cX12_harm 37 = .ok (.iconst 0, 1) := kDec_at dA267_cX12_harm 21 rfl
theorem dX12_harm_38 : decode cX12_harm 38 = .ok (.iaload, 1) := kDec_at dA267_cX12_harm 22 rfl
theorem dX12_harm_39 : decode cX12_harm 39 = .ok (.invokevirtual 138, 3) := kDec_at dA267_cX12_harm 23 rfl
set_option maxRecDepth 20000 in
theorem ggX12_harm_X12_isCode : GoodIn wsX12_harm wsX12_isCode := goodIn_r _ [11] rfl (by decide +kernel)
set_option maxRecDepth 20000 in
theorem gX12_harm_X12_isCode : GoodIn wsX12_harm (va_wsS RX12 158 yX12_isCode wsX12_isCode) := goodIn_app (goodIn_r _ [8, 9, 10] rfl (by decide +kernel)) ggX12_harm_X12_isCode
set_option maxRecDepth 20000 in
theorem ggX12_harm_X12_does : GoodIn wsX12_harm wsX12_does := goodIn_r _ [15, 5, 16, 7, 17, 18, 19, 10, 20, 21, 22, 23, 24, 25, 26, 27, 28, 29, 30, 31, 32, 33, 34, 35, 6, 36, 37, 38, 39, 40, 41, 42, 43, 44, 45, 46, 47, 48, 49, 50, 51, 52, 53, 54, 62, 63, 64, 65, 66, 67, 68, 69, 70, 71, 72, 73, 74, 75, 76, 77, 78, 79, 80, 81, 82, 83, 84, 85, 86, 87, 88, 89, 90, 91, 92, 93, 94, 95, 96, 97, 98, 99, 100, 101] rfl (by decide +kernel)
set_option maxRecDepth 20000 in
theorem gX12_harm_X12_does : GoodIn wsX12_harm (wsV RX12 138 RX12 yX12_does wsX12_does) := goodIn_app (goodIn_r _ [12, 13, 14, 10] rfl (by decide +kernel)) ggX12_harm_X12_does
set_option maxRecDepth 100000 in
theorem dA268_cX12_harm : kDec cX12_harm [(42, .ifCond .ne 13, 3), (55, .aload_n 0, 1), (56, .aload_n 0, 1), (57, .getfield 61, 3), (60, .aload_n 0, 1), (61, .getfield 119, 3), (64, .invokevirtual 154, 3), (67, .aload_n 0, 1), (68, .getfield 119, 3), (71, .ireturn, 1), (45, .aload_n 0, 1), (46, .aload_n 0, 1), (47, .getfield 102, 3), (50, .putfield 55, 3), (53, .iconst (-1), 1), (54, .ireturn, 1)] = true := by decide +kernel
theorem dX12_harm_42 : decode cX12_harm 42 = .ok (.ifCond .ne 13, 3) := kDec_at dA268_cX12_harm 0 rfl
theorem dX12_harm_55 : decode cX12_harm 55 = .ok (.aload_n 0, 1) := kDec_at dA268_cX12_harm 1 rfl
theorem dX12_harm_56 : decode cX12_harm 56 = .ok (.aload_n 0, 1) := kDec_at dA268_cX12_harm 2 rfl
theorem dX12_harm_57 : decode cX12_harm 57 = .ok (.getfield 61, 3) := kDec_at dA268_cX12_harm 3 rfl
theorem dX12_harm_60 : decode cX12_harm 60 = .ok (.aload_n 0, 1) := kDec_at dA268_cX12_harm 4 rfl
theorem dX12_harm_61 : decode cX12_harm 61 = .ok (.getfield 119, 3) := kDec_at dA268_cX12_harm 5 rfl
theorem dX12_harm_64 : decode cX12_harm 64 = .ok (.invokevirtual 154, 3) := kDec_at dA268_cX12_harm 6 rfl
theorem dX12_harm_67 : decode cX12_harm 67 = .ok (.aload_n 0, 1) := kDec_at dA268_cX12_harm 7 rfl
theorem dX12_harm_68 : decode cX12_harm 68 = .ok (.getfield 119, 3) := kDec_at dA268_cX12_harm 8 rfl
theorem dX12_harm_71 : decode cX12_harm 71 = .ok (.ireturn, 1) := kDec_at dA268_cX12_harm 9 rfl
theorem dX12_harm_45 : decode cX12_harm 45 = .ok (.aload_n 0, 1) := kDec_at dA268_cX12_harm 10 rfl
theorem dX12_harm_46 : decode cX12_harm 46 = .ok (.aload_n 0, 1) := kDec_at dA268_cX12_harm 11 rfl
theorem dX12_harm_47 : decode cX12_harm 47 = .ok (.getfield 102, 3) := kDec_at dA268_cX12_harm 12 rfl
theorem dX12_harm_50 : decode cX12_harm 50 = .ok (.putfield 55, 3) := kDec_at dA268_cX12_harm 13 rfl
theorem dX12_harm_53 : decode cX12_harm 53 = .ok (.iconst (-1), 1) := kDec_at dA268_cX12_harm 14 rfl
theorem dX12_harm_54 : decode cX12_harm 54 = .ok (.ireturn, 1) := kDec_at dA268_cX12_harm 15 rfl
set_option maxRecDepth 20000 in
theorem ggX12_harm_X12_become : GoodIn wsX12_harm wsX12_become := goodIn_r _ [58, 59, 60, 4, 3, 61, 62, 63, 64, 65, 66, 67, 68, 69, 70, 71, 72, 73, 74, 75, 76, 77, 78, 79, 80, 81, 82, 83, 84, 85, 86, 87, 88, 89, 90, 91, 92, 93, 94, 95, 96, 97, 98, 99, 100, 101] rfl (by decide +kernel)
set_option maxRecDepth 20000 in
theorem gX12_harm_X12_become : GoodIn wsX12_harm (wsV RX12 154 RX12 yX12_become wsX12_become) := goodIn_app (goodIn_r _ [55, 56, 57, 10] rfl (by decide +kernel)) ggX12_harm_X12_become
set_option maxRecDepth 100000 in
theorem dA269_cX12_undo : kDec cX12_undo [(0, .aload_n 0, 1), (1, .iconst 0, 1), (2, .putfield 85, 3), (5, .aload_n 0, 1), (6, .iconst (-1), 1), (7, .putfield 55, 3), (10, .iload_n 1, 1), (11, .invokestatic 158, 3), (14, .ifCond .eq 10, 3), (24, .iconst (-1), 1), (25, .ireturn, 1), (17, .iload_n 2, 1), (18, .invokestatic 158, 3), (21, .ifCond .ne 5, 3), (26, .aload_n 0, 1), (27, .invokevirtual 171, 3), (30, .aload_n 0, 1), (31, .iload_n 1, 1), (32, .iload_n 2, 1), (33, .invokevirtual 174, 3), (36, .ifCond .ne 13, 3), (49, .aload_n 0, 1), (50, .aload_n 0, 1), (51, .getfield 64, 3)] = true := by decide +kernel
theorem dX12_undo_0 : decode cX12_undo 0 = .ok (.aload_n 0, 1) := kDec_at dA269_cX12_undo 0 rfl
theorem dX12_undo_1 : decode cX12_undo 1 = .ok (.iconst 0, 1) := kDec_at dA269_cX12_undo 1 rfl
theorem dX12_undo_2 : decode cX12_undo 2 = .ok (.putfield 85, 3) := kDec_at dA269_cX12_undo 2 rfl
theorem dX12_undo_5 : decode cX12_undo 5 = .ok (.aload_n 0, 1) := kDec_at dA269_cX12_undo 3 rfl
theorem dX12_undo_6 : decode cX12_undo 6 = .ok (.iconst (-1), 1) := kDec_at dA269_cX12_undo 4 rfl
theorem dX12_undo_7 : decode cX12_undo 7 = .ok (.putfield 55, 3) := kDec_at dA269_cX12_undo 5 rfl
theorem dX12_undo_10 : decode cX12_undo 10 = .ok (.iload_n 1, 1) := kDec_at dA269_cX12_undo 6 rfl
theorem dX12_undo_11 : decode cX12_undo 11 = .ok (.invokestatic 158, 3) := kDec_at dA269_cX12_undo 7 rfl
theorem dX12_undo_14 : decode cX12_undo 14 = .ok (.ifCond .eq 10, 3) := kDec_at dA269_cX12_undo 8 rfl
theorem dX12_undo_24 : decode cX12_undo 24 = .ok (.iconst (-1), 1) := kDec_at dA269_cX12_undo 9 rfl
theorem dX12_undo_25 : decode cX12_undo 25 = .ok (.ireturn, 1) := kDec_at dA269_cX12_undo 10 rfl
theorem dX12_undo_17 : decode cX12_undo 17 = .ok (.iload_n 2, 1) := kDec_at dA269_cX12_undo 11 rfl
theorem dX12_undo_18 : decode cX12_undo 18 = .ok (.invokestatic 158, 3) := kDec_at dA269_cX12_undo 12 rfl
theorem dX12_undo_21 : decode cX12_undo 21 = .ok (.ifCond .ne 5, 3) := kDec_at dA269_cX12_undo 13 rfl
theorem dX12_undo_26 : decode cX12_undo 26 = .ok (.aload_n 0, 1) := kDec_at dA269_cX12_undo 14 rfl
theorem dX12_undo_27 : decode cX12_undo 27 = .ok (.invokevirtual 171, 3) := kDec_at dA269_cX12_undo 15 rfl
theorem dX12_undo_30 : decode cX12_undo 30 = .ok (.aload_n 0, 1) := kDec_at dA269_cX12_undo 16 rfl
theorem dX12_undo_31 : decode cX12_undo 31 = .ok (.iload_n 1, 1) := kDec_at dA269_cX12_undo 17 rfl
theorem dX12_undo_32 : decode cX12_undo 32 = .ok (.iload_n 2, 1) := kDec_at dA269_cX12_undo 18 rfl
theorem dX12_undo_33 : decode cX12_undo 33 = .ok (.invokevirtual 174, 3) := kDec_at dA269_cX12_undo 19 rfl
theorem dX12_undo_36 : decode cX12_undo 36 = .ok (.ifCond .ne 13, 3) := kDec_at dA269_cX12_undo 20 rfl
theorem dX12_undo_49 : decode cX12_undo 49 = .ok (.aload_n 0, 1) := kDec_at dA269_cX12_undo 21 rfl
theorem dX12_undo_50 : decode cX12_undo 50 = .ok (.aload_n 0, 1) := kDec_at dA269_cX12_undo 22 rfl
theorem dX12_undo_51 : decode cX12_undo 51 = .ok (.getfield 64, 3) := kDec_at dA269_cX12_undo 23 rfl
set_option maxRecDepth 20000 in
theorem ggX12_undo_X12_isCode : GoodIn wsX12_undo wsX12_isCode := goodIn_r _ [9] rfl (by decide +kernel)
set_option maxRecDepth 20000 in
theorem gX12_undo_X12_isCode : GoodIn wsX12_undo (va_wsS RX12 158 yX12_isCode wsX12_isCode) := goodIn_app (goodIn_r _ [6, 7, 8] rfl (by decide +kernel)) ggX12_undo_X12_isCode
set_option maxRecDepth 20000 in
theorem ggX12_undo_X12_takeText : GoodIn wsX12_undo wsX12_takeText := goodIn_r _ [13, 14, 5, 4, 15, 73, 74, 75, 76, 77, 78, 79, 80, 81, 82, 83, 84, 85, 86, 87, 88, 89, 90, 91, 92, 93, 94, 95, 96, 97, 98, 99, 100, 101, 102, 103, 104, 105, 106, 107, 108, 109, 110, 111, 112] rfl (by decide +kernel)
set_option maxRecDepth 20000 in
theorem gX12_undo_X12_takeText : GoodIn wsX12_undo (wsV RX12 171 RX12 yX12_takeText wsX12_takeText) := goodIn_app (goodIn_r _ [10, 11, 12, 8] rfl (by decide +kernel)) ggX12_undo_X12_takeText
set_option maxRecDepth 20000 in
theorem ggX12_undo_X12_undoes : GoodIn wsX12_undo wsX12_undoes := goodIn_r _ [19, 4, 5, 20, 21, 22, 3, 23, 24, 25, 8, 26, 27, 28, 29, 30, 31, 32, 33, 34, 35, 36, 37, 38, 39, 40, 41, 42, 43, 44, 45, 46, 47, 48, 49, 50, 51, 52, 53, 54, 55, 56, 57, 58, 59, 60, 61, 62, 63, 64, 65, 73, 74, 75, 76, 77, 78, 79, 80, 81, 82, 83, 84, 85, 86, 87, 88, 89, 90, 91, 92, 93, 94, 95, 96, 97, 98, 99, 100, 101, 102, 103, 104, 105, 106, 107, 108, 109, 110, 111, 112] rfl (by decide +kernel)
set_option maxRecDepth 20000 in
theorem gX12_undo_X12_undoes : GoodIn wsX12_undo (wsV RX12 174 RX12 yX12_undoes wsX12_undoes) := goodIn_app (goodIn_r _ [16, 17, 18, 8] rfl (by decide +kernel)) ggX12_undo_X12_undoes
set_option maxRecDepth 100000 in
theorem dA270_cX12_undo : kDec cX12_undo [(54, .aload_n 0, 1), (55, .getfield 135, 3), (58, .invokevirtual 154, 3), (61, .aload_n 0, 1), (62, .getfield 135, 3), (65, .ireturn, 1), (39, .aload_n 0, 1), (40, .aload_n 0, 1), (41, .getfield 102, 3), (44, .putfield 55, 3), (47, .iconst (-1), 1), (48, .ireturn, 1)] = true := by decide +kernel
theorem dX12_undo_54 : decode cX12_undo 54 = .ok (.aload_n 0, 1) := kDec_at dA270_cX12_undo 0 rfl
theorem dX12_undo_55 : decode cX12_undo 55 = .ok (.getfield 135, 3) := kDec_at dA270_cX12_undo 1 rfl
theorem dX12_undo_58 : decode cX12_undo 58 = .ok (.invokevirtual 154, 3) := kDec_at dA270_cX12_undo 2 rfl
theorem dX12_undo_61 : decode cX12_undo 61 = .ok (.aload_n 0, 1) := kDec_at dA270_cX12_undo 3 rfl
theorem dX12_undo_62 : decode cX12_undo 62 = .ok (.getfield 135, 3) := kDec_at dA270_cX12_undo 4 rfl
theorem dX12_undo_65 : decode cX12_undo 65 = .ok (.ireturn, 1) := kDec_at dA270_cX12_undo 5 rfl
theorem dX12_undo_39 : decode cX12_undo 39 = .ok (.aload_n 0, 1) := kDec_at dA270_cX12_undo 6 rfl
theorem dX12_undo_40 : decode cX12_undo 40 = .ok (.aload_n 0, 1) := kDec_at dA270_cX12_undo 7 rfl
theorem dX12_undo_41 : decode cX12_undo 41 = .ok (.getfield 102, 3) := kDec_at dA270_cX12_undo 8 rfl
theorem dX12_undo_44 : decode cX12_undo 44 = .ok (.putfield 55, 3) := kDec_at dA270_cX12_undo 9 rfl
theorem dX12_undo_47 : decode cX12_undo 47 = .ok (.iconst (-1), 1) := kDec_at dA270_cX12_undo 10 rfl
theorem dX12_undo_48 : decode cX12_undo 48 = .ok (.ireturn, 1) := kDec_at dA270_cX12_undo 11 rfl
set_option maxRecDepth 20000 in
theorem ggX12_undo_X12_become : GoodIn wsX12_undo wsX12_become := goodIn_r _ [69, 70, 71, 14, 15, 72, 73, 74, 75, 76, 77, 78, 79, 80, 81, 82, 83, 84, 85, 86, 87, 88, 89, 90, 91, 92, 93, 94, 95, 96, 97, 98, 99, 100, 101, 102, 103, 104, 105, 106, 107, 108, 109, 110, 111, 112] rfl (by decide +kernel)
set_option maxRecDepth 20000 in
theorem gX12_undo_X12_become : GoodIn wsX12_undo (wsV RX12 154 RX12 yX12_become wsX12_become) := goodIn_app (goodIn_r _ [66, 67, 68, 8] rfl (by decide +kernel)) ggX12_undo_X12_become

end

/-! 59l.harm -/
section
set_option maxHeartbeats 40000000 in
set_option maxRecDepth 100000 in
theorem f_X12_harm (l : Launch) (dC : Nat → ClassId) (dI : Nat → Nat → Nat) (cI cS : ClassId) (sz : Nat) (oM : Nat) (mT : Nat) (mS : Nat) (mX : Nat) (mL : Nat) (mB : Nat) (mD : Nat) (m1 : Nat) (m2 : Nat) (mR : Nat) (x1 : Nat) (x2 : Nat) (x3 : Nat) (mH : Nat) (mY : Nat) (mE : Nat) (mW : Nat) (mO : Nat) (y1 : Nat) (y2 : Nat) (y3 : Nat) (y4 : Nat) (mZ : Nat) (zt : Int32) (zp : Int32) (zf : Int32) (zh : Int32) (zr : Int32) (zc : Int32) (zy : Int32) (za : Int32) (zb : Int32) (zs : Int32) (zq : Int32) (zw : Int32) (ze : Int32) (zn : Int32) (zm : Int32) (zl : Int32) (zk : Int32) (zd : Int32) (eY : Nat → Int32) (eB : Nat → Int32) (eL : Nat → Int32) (eE : Nat → Int32) (eS : Nat → Int32) (eX : Nat → Int32) (a : Int32) (b : Int32) (g_zt : 0 ≤ zt.toInt ∧ zt.toInt ≤ 900) (g_zp : 0 ≤ zp.toInt ∧ zp.toInt ≤ 20) (g_zf : 0 ≤ zf.toInt ∧ zf.toInt ≤ 19) (g_zh : 0 ≤ zh.toInt ∧ zh.toInt ≤ 6) (g_zr : 0 ≤ zr.toInt ∧ zr.toInt ≤ 258) (g_zc : 0 ≤ zc.toInt ∧ zc.toInt ≤ 300) (g_zy : 0 ≤ zy.toInt ∧ zy.toInt ≤ 65536) (g_za : 0 ≤ za.toInt ∧ za.toInt ≤ 5) (g_zb : 0 ≤ zb.toInt ∧ zb.toInt ≤ 5) (g_zs : 0 ≤ zs.toInt ∧ zs.toInt ≤ 2000000) (g_zq : -1 ≤ zq.toInt ∧ zq.toInt ≤ 2000000) (g_zn : 0 ≤ zn.toInt ∧ zn.toInt ≤ 2600) (g_zm : 0 ≤ zm.toInt ∧ zm.toInt ≤ 2600) (g_zk : 0 ≤ zk.toInt ∧ zk.toInt ≤ 300) (g_eY : rg 0 255 eY) (g_eB : rg (-1) 255 eB) (g_eL : rg (-1) 65535 eL) (g_eE : rg 0 65535 eE) (g_eS : rg 0 300 eS) (g_eX : rg 0 65535 eX) (hzs : zs.toInt ≤ 1000000) : kMi l yX12_harm wsX12_harm ({ frames := 4, cells := 0, slots := 0, locals := 95 } : Room) [.ref oM, .int a, .int b] sz (dC, dI) vwCl [(cI, .int), (cS, .short)] [(oM, .inr (12, [.ref mT, .int zt, .ref mS, .ref mX, .int zp, .int zf, .ref mL, .ref mB, .ref mD, .ref m1, .ref m2, .int zh, .ref mR, .int zr, .ref x1, .ref x2, .ref x3, .int zc, .ref mH, .int zy, .int za, .int zb, .int zs, .int zq, .int zw, .int ze, .ref mY, .int zn, .ref mE, .int zm, .int zl, .ref mW, .int zk, .ref mO, .int zd, .ref y1, .ref y2, .ref y3, .ref y4, .ref mZ])), (mY, .inl (cI, 2600, .inl eY)), (mB, .inl (cS, 131072, .inl eB)), (mL, .inl (cI, 512, .inl eL)), (mE, .inl (cI, 2600, .inl eE)), (mS, .inl (cI, 21, .inl eS)), (mX, .inl (cI, 6300, .inl eX))] (fun _ => True) 0 0 (fun (A : Nat → Prop) (r : Int32) (hh9 : Heap) => ∃ (ze' : Int32) (zw' : Int32) (zn' : Int32) (eY' : Nat → Int32) (zd' : Int32) (zm' : Int32) (zl' : Int32) (eE' : Nat → Int32) (zp' : Int32) (zf' : Int32) (zs' : Int32) (eS' : Nat → Int32) (eX' : Nat → Int32), kPD (dC, dI) vwCl A [(oM, .inr (12, [.ref mT, .int zt, .ref mS, .ref mX, .int zp', .int zf', .ref mL, .ref mB, .ref mD, .ref m1, .ref m2, .int zh, .ref mR, .int zr, .ref x1, .ref x2, .ref x3, .int zc, .ref mH, .int zy, .int za, .int zb, .int zs', .int zq, .int zw', .int ze', .ref mY, .int zn', .ref mE, .int zm', .int zl', .ref mW, .int zk, .ref mO, .int zd', .ref y1, .ref y2, .ref y3, .ref y4, .ref mZ])), (mY, .inl (cI, 2600, .inl eY')), (mB, .inl (cS, 131072, .inl eB)), (mL, .inl (cI, 512, .inl eL)), (mE, .inl (cI, 2600, .inl eE')), (mS, .inl (cI, 21, .inl eS')), (mX, .inl (cI, 6300, .inl eX'))] hh9 ∧ (0 ≤ zn'.toInt ∧ zn'.toInt ≤ 2600) ∧ (rg 0 255 eY') ∧ (0 ≤ zm'.toInt ∧ zm'.toInt ≤ 2600) ∧ (rg 0 65535 eE') ∧ (0 ≤ zp'.toInt ∧ zp'.toInt ≤ 20) ∧ (0 ≤ zf'.toInt ∧ zf'.toInt ≤ 19) ∧ (0 ≤ zs'.toInt ∧ zs'.toInt ≤ 2000000) ∧ (rg 0 300 eS') ∧ (rg 0 65535 eX') ∧ (zs'.toInt ≤ zs.toInt + 1 ∧ zs.toInt ≤ zs'.toInt) ∧ (F_st zs zs' eX eX' eS eS') ∧ (OR (-1) r zs zs' zp zp' zf zf' eS eS' eX eX' (hmP a b (fun k => eL k) (fun k => eL (256 + k)) (Br a eB) (eS 0).toInt eX))) := by
  refine kMi_of (cc := cX12_harm) (maxL := 3) (ret := (some .int)) (lv := [(0, .ref oM), (1, .int a), (2, .int b)]) (by decide +kernel) rfl rfl (Nat.le_of_ble_eq_true rfl) ?_
  intro p e s m below meth c A QQ ls hx hb hr hts hml hown hlocks hA hQQ hK hX hP hD hS hl
  have hown : s.vm.findClass RX12 = some m.cls := hown
  have hcf := k_cf hx hb hml hown hts
  have in_X12 : ∀ w ∈ wsX120, w ∈ wsX12_harm := fun _ h => List.mem_cons_of_mem _ (List.mem_append_right _ (h))
  replace g_zt := hid g_zt
  replace g_zh := hid g_zh
  replace g_zr := hid g_zr
  replace g_zc := hid g_zc
  replace g_zy := hid g_zy
  replace g_za := hid g_za
  replace g_zb := hid g_zb
  replace g_zq := hid g_zq
  replace g_zn := hid g_zn
  replace g_zm := hid g_zm
  replace g_zk := hid g_zk
  refine lv_aload_n hx hb dX12_harm_0 rfl (lv_at hl 0 rfl) ?_
  refine lv_iconst (v := 0) hx hb dX12_harm_1 (by decide) ?_
  refine va_put (D := (dC, dI)) (ci := 12) (v := .int 0) (ty := .int) (C := RX12) (T := TX12) (N := 40) hx hb hts in_X12 tyX12 tyX12_ok nmX12 hown hK hP hD hS 0 rfl rfl 25 (by decide) (hts (.fieldLink RX12 85 "TextMenderModel" "thrown" "I") (List.mem_of_getElem? (i := 1) rfl)) (fun _ h9 => h9) rfl (by decide +kernel) rfl rfl (Nat.le_of_ble_eq_true rfl) dX12_harm_2 (kW (wn := [(oM, .inr (12, [.ref mT, .int zt, .ref mS, .ref mX, .int zp, .int zf, .ref mL, .ref mB, .ref mD, .ref m1, .ref m2, .int zh, .ref mR, .int zr, .ref x1, .ref x2, .ref x3, .int zc, .ref mH, .int zy, .int za, .int zb, .int zs, .int zq, .int zw, .int 0, .ref mY, .int zn, .ref mE, .int zm, .int zl, .ref mW, .int zk, .ref mO, .int zd, .ref y1, .ref y2, .ref y3, .ref y4, .ref mZ])), (mY, .inl (cI, 2600, .inl eY)), (mB, .inl (cS, 131072, .inl eB)), (mL, .inl (cI, 512, .inl eL)), (mE, .inl (cI, 2600, .inl eE)), (mS, .inl (cI, 21, .inl eS)), (mX, .inl (cI, 6300, .inl eX))]) rfl (fun H locs hPn hDn hSn => ?_))
  clear hP hD hS
  have hP := hPn
  have hD := hDn
  have hS := hSn
  clear hPn hDn hSn
  refine lv_aload_n hx hb dX12_harm_5 rfl (lv_at hl 0 rfl) ?_
  refine lv_iconst (v := (-1)) hx hb dX12_harm_6 (by decide) ?_
  refine va_put (D := (dC, dI)) (ci := 12) (v := .int (-1)) (ty := .int) (C := RX12) (T := TX12) (N := 40) hx hb hts in_X12 tyX12 tyX12_ok nmX12 hown hK hP hD hS 0 rfl rfl 24 (by decide) (hts (.fieldLink RX12 55 "TextMenderModel" "where" "I") (List.mem_of_getElem? (i := 2) rfl)) (fun _ h9 => h9) rfl (by decide +kernel) rfl rfl (Nat.le_of_ble_eq_true rfl) dX12_harm_7 (kW (wn := [(oM, .inr (12, [.ref mT, .int zt, .ref mS, .ref mX, .int zp, .int zf, .ref mL, .ref mB, .ref mD, .ref m1, .ref m2, .int zh, .ref mR, .int zr, .ref x1, .ref x2, .ref x3, .int zc, .ref mH, .int zy, .int za, .int zb, .int zs, .int zq, .int (-1), .int 0, .ref mY, .int zn, .ref mE, .int zm, .int zl, .ref mW, .int zk, .ref mO, .int zd, .ref y1, .ref y2, .ref y3, .ref y4, .ref mZ])), (mY, .inl (cI, 2600, .inl eY)), (mB, .inl (cS, 131072, .inl eB)), (mL, .inl (cI, 512, .inl eL)), (mE, .inl (cI, 2600, .inl eE)), (mS, .inl (cI, 21, .inl eS)), (mX, .inl (cI, 6300, .inl eX))]) rfl (fun H locs hPn hDn hSn => ?_))
  clear hP hD hS
  have hP := hPn
  have hD := hDn
  have hS := hSn
  clear hPn hDn hSn
  refine lv_iload_n hx hb dX12_harm_10 rfl (lv_at hl 1 rfl) ?_
  refine kS_i (rest := []) hcf (m_X12_isCode l dC dI cI cS H.size a ) kc_X12_isCode gX12_harm_X12_isCode rfl rfl ⟨Nat.le_of_ble_eq_true rfl, Nat.le_of_ble_eq_true rfl⟩ kX_t hK hP hD hS hA [] [0, 1, 2, 3, 4, 5, 6] rfl (by decide +kernel) rfl hl rfl (Nat.le_of_ble_eq_true rfl) dX12_harm_11 ⟨Nat.le_of_ble_eq_true rfl, Nat.le_of_ble_eq_true rfl⟩ (fun r_1 H locs hB hJ hSn => ?_)
  obtain ⟨⟨hP1, hD1⟩, hf1_0, hf1_1⟩ := hB
  obtain ⟨hPn, hDn⟩ := hJ _ hP1 hD1 [(oM, .inr (12, [.ref mT, .int zt, .ref mS, .ref mX, .int zp, .int zf, .ref mL, .ref mB, .ref mD, .ref m1, .ref m2, .int zh, .ref mR, .int zr, .ref x1, .ref x2, .ref x3, .int zc, .ref mH, .int zy, .int za, .int zb, .int zs, .int zq, .int (-1), .int 0, .ref mY, .int zn, .ref mE, .int zm, .int zl, .ref mW, .int zk, .ref mO, .int zd, .ref y1, .ref y2, .ref y3, .ref y4, .ref mZ])), (mY, .inl (cI, 2600, .inl eY)), (mB, .inl (cS, 131072, .inl eB)), (mL, .inl (cI, 512, .inl eL)), (mE, .inl (cI, 2600, .inl eE)), (mS, .inl (cI, 21, .inl eS)), (mX, .inl (cI, 6300, .inl eX))] rfl
  clear hP hD hS hJ hP1 hD1
  have hP := hPn
  have hD := hDn
  have hS := hSn
  clear hPn hDn hSn
  refine lv_if_eq (tgt := 24) hx hb dX12_harm_14 (by decide) (fun c_2 => ?_) (fun c_2 => ?_)
  · have tc_2 : r_1.toInt = 0 := v_eq c_2
    refine lv_iconst (v := (-1)) hx hb dX12_harm_24 (by decide) ?_
    exact kl_i (v := (-1)) hQQ hx hb hr hlocks hS dX12_harm_25 ⟨0, (-1), zn, eY, zd, zm, zl, eE, zp, zf, zs, eS, eX, ⟨hP, hD⟩, g_zn, g_eY, g_zm, g_eE, g_zp, g_zf, g_zs, g_eS, g_eX, by show zs.toInt ≤ zs.toInt + 1 ∧ zs.toInt ≤ zs.toInt; omega, by first | exact Or.inl (by omega) | exact Or.inr ⟨rfl, rfl, rfl⟩, OR_n rfl (fun c fm v h => by have h1 := h.1; have h2 := h.2.1; unfold okd at h1 h2; omega)⟩
  · have tc_2 : ¬ r_1.toInt = 0 := v_ne c_2
    refine lv_iload_n hx hb dX12_harm_17 rfl (lv_at hl 2 rfl) ?_
    refine kS_i (rest := []) hcf (m_X12_isCode l dC dI cI cS H.size b ) kc_X12_isCode gX12_harm_X12_isCode rfl rfl ⟨Nat.le_of_ble_eq_true rfl, Nat.le_of_ble_eq_true rfl⟩ kX_t hK hP hD hS hA [] [0, 1, 2, 3, 4, 5, 6] rfl (by decide +kernel) rfl hl rfl (Nat.le_of_ble_eq_true rfl) dX12_harm_18 ⟨Nat.le_of_ble_eq_true rfl, Nat.le_of_ble_eq_true rfl⟩ (fun r_3 H locs hB hJ hSn => ?_)
    obtain ⟨⟨hP1, hD1⟩, hf3_0, hf3_1⟩ := hB
    obtain ⟨hPn, hDn⟩ := hJ _ hP1 hD1 [(oM, .inr (12, [.ref mT, .int zt, .ref mS, .ref mX, .int zp, .int zf, .ref mL, .ref mB, .ref mD, .ref m1, .ref m2, .int zh, .ref mR, .int zr, .ref x1, .ref x2, .ref x3, .int zc, .ref mH, .int zy, .int za, .int zb, .int zs, .int zq, .int (-1), .int 0, .ref mY, .int zn, .ref mE, .int zm, .int zl, .ref mW, .int zk, .ref mO, .int zd, .ref y1, .ref y2, .ref y3, .ref y4, .ref mZ])), (mY, .inl (cI, 2600, .inl eY)), (mB, .inl (cS, 131072, .inl eB)), (mL, .inl (cI, 512, .inl eL)), (mE, .inl (cI, 2600, .inl eE)), (mS, .inl (cI, 21, .inl eS)), (mX, .inl (cI, 6300, .inl eX))] rfl
    clear hP hD hS hJ hP1 hD1
    have hP := hPn
    have hD := hDn
    have hS := hSn
    clear hPn hDn hSn
    refine lv_if_ne (tgt := 26) hx hb dX12_harm_21 (by decide) (fun c_4 => ?_) (fun c_4 => ?_)
    · have tc_4 : ¬ r_3.toInt = 0 := v_ne c_4
      refine lv_aload_n hx hb dX12_harm_26 rfl (lv_at hl 0 rfl) ?_
      refine lv_iload_n hx hb dX12_harm_27 rfl (lv_at hl 1 rfl) ?_
      refine lv_iload_n hx hb dX12_harm_28 rfl (lv_at hl 2 rfl) ?_
      refine lv_aload_n hx hb dX12_harm_29 rfl (lv_at hl 0 rfl) ?_
      refine va_get (D := (dC, dI)) (ci := 12) (v := .ref mX) (C := RX12) (T := TX12) (N := 40) hx hb hts in_X12 hown hK hP 0 rfl rfl 3 (by decide) (hts (.fieldLink RX12 16 "TextMenderModel" "texts" "[I") (List.mem_of_getElem? (i := 3) rfl)) (fun _ h9 => h9) rfl dX12_harm_30 ?_
      refine lv_aload_n hx hb dX12_harm_33 rfl (lv_at hl 0 rfl) ?_
      refine va_get (D := (dC, dI)) (ci := 12) (v := .ref mS) (C := RX12) (T := TX12) (N := 40) hx hb hts in_X12 hown hK hP 0 rfl rfl 2 (by decide) (hts (.fieldLink RX12 13 "TextMenderModel" "sizes" "[I") (List.mem_of_getElem? (i := 4) rfl)) (fun _ h9 => h9) rfl dX12_harm_34 ?_
      refine lv_iconst (v := 0) hx hb dX12_harm_37 (by decide) ?_
      refine va_iald hx hb hK hP 5 0 rfl rfl (by unfold vp_in; decide) dX12_harm_38 ?_
      refine lv_topi (fun x_5 ex_5 => ?_)
      have tx_5 : 0 ≤ x_5.toInt ∧ x_5.toInt ≤ 300 := rg_at g_eS ex_5
      refine kV_i (rest := []) (q0 := 0) (ci := 12) hcf (f_X12_does l dC dI cI cS H.size oM mX mT mS mX mL mB mD m1 m2 mR x1 x2 x3 mH mY mE mW mO y1 y2 y3 y4 mZ 6300 zt zp zf zh zr zc zy za zb zs zq (-1) 0 zn zm zl zk zd eY eB eL eE eX a b x_5 (g_zt) (g_zp) (g_zf) (g_zh) (g_zr) (g_zc) (g_zy) (g_za) (g_zb) (g_zs) (g_zq) (g_zn) (g_zm) (g_zk) (g_eY) (g_eB) (g_eL) (g_eE) (g_eX) (by omega) (by omega) (v_rr tx_5 (by decide) (by decide)) (by omega) (by omega)) kc_X12_does gX12_harm_X12_does rfl rfl rfl ⟨Nat.le_of_ble_eq_true rfl, Nat.le_of_ble_eq_true rfl⟩ kX_t hK hP hD hS hA [0, 1, 2, 3, 4, 6] [5] rfl (by decide +kernel) rfl rfl rfl hl rfl (Nat.le_of_ble_eq_true rfl) dX12_harm_39 ⟨Nat.le_of_ble_eq_true rfl, Nat.le_of_ble_eq_true rfl⟩ (fun r_6 H locs hB hJ hSn => ?_)
      obtain ⟨zn_6, eY_6, zd_6, zm_6, zl_6, eE_6, ⟨hP1, hD1⟩, hf6_0, hf6_1, hf6_2, hf6_3, hf6_4, hf6_5, hf6_6⟩ := hB
      obtain ⟨hPn, hDn⟩ := hJ _ hP1 hD1 [(mS, .inl (cI, 21, .inl eS)), (oM, .inr (12, [.ref mT, .int zt, .ref mS, .ref mX, .int zp, .int zf, .ref mL, .ref mB, .ref mD, .ref m1, .ref m2, .int zh, .ref mR, .int zr, .ref x1, .ref x2, .ref x3, .int zc, .ref mH, .int zy, .int za, .int zb, .int zs, .int zq, .int (-1), .int 0, .ref mY, .int zn_6, .ref mE, .int zm_6, .int zl_6, .ref mW, .int zk, .ref mO, .int zd_6, .ref y1, .ref y2, .ref y3, .ref y4, .ref mZ])), (mY, .inl (cI, 2600, .inl eY_6)), (mB, .inl (cS, 131072, .inl eB)), (mL, .inl (cI, 512, .inl eL)), (mE, .inl (cI, 2600, .inl eE_6)), (mX, .inl (cI, 6300, .inl eX))] rfl
      clear hP hD hS hJ hP1 hD1
      have hP := hPn
      have hD := hDn
      have hS := hSn
      clear hPn hDn hSn
      refine lv_if_ne (tgt := 55) hx hb dX12_harm_42 (by decide) (fun c_7 => ?_) (fun c_7 => ?_)
      · have tc_7 : ¬ r_6.toInt = 0 := v_ne c_7
        refine lv_aload_n hx hb dX12_harm_55 rfl (lv_at hl 0 rfl) ?_
        refine lv_aload_n hx hb dX12_harm_56 rfl (lv_at hl 0 rfl) ?_
        refine va_get (D := (dC, dI)) (ci := 12) (v := .ref mE) (C := RX12) (T := TX12) (N := 40) hx hb hts in_X12 hown hK hP 1 rfl rfl 28 (by decide) (hts (.fieldLink RX12 61 "TextMenderModel" "came" "[I") (List.mem_of_getElem? (i := 6) rfl)) (fun _ h9 => h9) rfl dX12_harm_57 ?_
        refine lv_aload_n hx hb dX12_harm_60 rfl (lv_at hl 0 rfl) ?_
        refine va_get (D := (dC, dI)) (ci := 12) (v := .int zm_6) (C := RX12) (T := TX12) (N := 40) hx hb hts in_X12 hown hK hP 1 rfl rfl 29 (by decide) (hts (.fieldLink RX12 119 "TextMenderModel" "cameMany" "I") (List.mem_of_getElem? (i := 7) rfl)) (fun _ h9 => h9) rfl dX12_harm_61 ?_
        refine kV_v (rest := []) (q0 := 0) (ci := 12) hcf (f_X12_bec l dC dI cI cS H.size oM mE mT mS mX mL mB mD m1 m2 mR x1 x2 x3 mH mY mE mW mO y1 y2 y3 y4 mZ 2600 zt zp zf zh zr zc zy za zb zs zq (-1) 0 zn_6 zm_6 zl_6 zk zd_6 eS eX eE_6 zm_6 (g_zt) (g_zp) (g_zf) (g_zh) (g_zr) (g_zc) (g_zy) (g_za) (g_zb) (g_zs) (g_zq) (hf6_0) (hf6_2) (g_zk) (g_eS) (g_eX) (by omega) (by omega) (by omega) (prg_of hf6_3) (by omega)) kc_X12_become gX12_harm_X12_become rfl rfl rfl ⟨Nat.le_of_ble_eq_true rfl, Nat.le_of_ble_eq_true rfl⟩ kX_t hK hP hD hS hA [1, 0, 6, 5] [2, 3, 4] rfl (by decide +kernel) rfl rfl rfl hl rfl (Nat.le_of_ble_eq_true rfl) dX12_harm_64 ⟨Nat.le_of_ble_eq_true rfl, Nat.le_of_ble_eq_true rfl⟩ (fun H locs hB hJ hSn => ?_)
        obtain ⟨zp_8, zf_8, zs_8, eS_8, eX_8, ⟨hP1, hD1⟩, hf8_0, hf8_1, hf8_2, hf8_3, hf8_4, hf8_5, hf8_6⟩ := hB
        obtain ⟨hPn, hDn⟩ := hJ _ hP1 hD1 [(mY, .inl (cI, 2600, .inl eY_6)), (mB, .inl (cS, 131072, .inl eB)), (mL, .inl (cI, 512, .inl eL)), (oM, .inr (12, [.ref mT, .int zt, .ref mS, .ref mX, .int zp_8, .int zf_8, .ref mL, .ref mB, .ref mD, .ref m1, .ref m2, .int zh, .ref mR, .int zr, .ref x1, .ref x2, .ref x3, .int zc, .ref mH, .int zy, .int za, .int zb, .int zs_8, .int zq, .int (-1), .int 0, .ref mY, .int zn_6, .ref mE, .int zm_6, .int zl_6, .ref mW, .int zk, .ref mO, .int zd_6, .ref y1, .ref y2, .ref y3, .ref y4, .ref mZ])), (mS, .inl (cI, 21, .inl eS_8)), (mX, .inl (cI, 6300, .inl eX_8)), (mE, .inl (cI, 2600, .inl eE_6))] rfl
        clear hP hD hS hJ hP1 hD1
        have hP := hPn
        have hD := hDn
        have hS := hSn
        clear hPn hDn hSn
        refine lv_aload_n hx hb dX12_harm_67 rfl (lv_at hl 0 rfl) ?_
        refine va_get (D := (dC, dI)) (ci := 12) (v := .int zm_6) (C := RX12) (T := TX12) (N := 40) hx hb hts in_X12 hown hK hP 3 rfl rfl 29 (by decide) (hts (.fieldLink RX12 119 "TextMenderModel" "cameMany" "I") (List.mem_of_getElem? (i := 7) rfl)) (fun _ h9 => h9) rfl dX12_harm_68 ?_
        exact kl_i (v := zm_6) hQQ hx hb hr hlocks hS dX12_harm_71 ⟨0, (-1), zn_6, eY_6, zd_6, zm_6, zl_6, eE_6, zp_8, zf_8, zs_8, eS_8, eX_8, kPD_sub hP hD [3, 0, 1, 2, 6, 4, 5] (by decide +kernel) rfl, hf6_0, hf6_1, hf6_2, hf6_3, hf8_0, hf8_1, hf8_2, hf8_3, hf8_4, by show zs_8.toInt ≤ zs.toInt + 1 ∧ zs.toInt ≤ zs_8.toInt; omega, by first | exact Or.inl (by omega) | exact Or.inr ⟨rfl, rfl, rfl⟩, OR_y ((pz_1 (Or.inl ⟨by unfold okd; omega, by unfold okd; omega, ps_n (n := x_5.toInt) (n' := (eS 0).toInt) hf6_6 (by rw [ex_5]; rfl)⟩) (by omega)).imp (fun c hc => ⟨hc.1, hc.2 _ (by first | rfl | omega)⟩)) hf8_6 (by omega)⟩
      · have tc_7 : r_6.toInt = 0 := v_eq c_7
        refine lv_aload_n hx hb dX12_harm_45 rfl (lv_at hl 0 rfl) ?_
        refine lv_aload_n hx hb dX12_harm_46 rfl (lv_at hl 0 rfl) ?_
        refine va_get (D := (dC, dI)) (ci := 12) (v := .int zl_6) (C := RX12) (T := TX12) (N := 40) hx hb hts in_X12 hown hK hP 1 rfl rfl 30 (by decide) (hts (.fieldLink RX12 102 "TextMenderModel" "faultAt" "I") (List.mem_of_getElem? (i := 5) rfl)) (fun _ h9 => h9) rfl dX12_harm_47 ?_
        refine va_put (D := (dC, dI)) (ci := 12) (v := .int zl_6) (ty := .int) (C := RX12) (T := TX12) (N := 40) hx hb hts in_X12 tyX12 tyX12_ok nmX12 hown hK hP hD hS 1 rfl rfl 24 (by decide) (hts (.fieldLink RX12 55 "TextMenderModel" "where" "I") (List.mem_of_getElem? (i := 2) rfl)) (fun _ h9 => h9) rfl (by decide +kernel) rfl rfl (Nat.le_of_ble_eq_true rfl) dX12_harm_50 (kW (wn := [(mS, .inl (cI, 21, .inl eS)), (oM, .inr (12, [.ref mT, .int zt, .ref mS, .ref mX, .int zp, .int zf, .ref mL, .ref mB, .ref mD, .ref m1, .ref m2, .int zh, .ref mR, .int zr, .ref x1, .ref x2, .ref x3, .int zc, .ref mH, .int zy, .int za, .int zb, .int zs, .int zq, .int zl_6, .int 0, .ref mY, .int zn_6, .ref mE, .int zm_6, .int zl_6, .ref mW, .int zk, .ref mO, .int zd_6, .ref y1, .ref y2, .ref y3, .ref y4, .ref mZ])), (mY, .inl (cI, 2600, .inl eY_6)), (mB, .inl (cS, 131072, .inl eB)), (mL, .inl (cI, 512, .inl eL)), (mE, .inl (cI, 2600, .inl eE_6)), (mX, .inl (cI, 6300, .inl eX))]) rfl (fun H locs hPn hDn hSn => ?_))
        clear hP hD hS
        have hP := hPn
        have hD := hDn
        have hS := hSn
        clear hPn hDn hSn
        refine lv_iconst (v := (-1)) hx hb dX12_harm_53 (by decide) ?_
        exact kl_i (v := (-1)) hQQ hx hb hr hlocks hS dX12_harm_54 ⟨0, zl_6, zn_6, eY_6, zd_6, zm_6, zl_6, eE_6, zp, zf, zs, eS, eX, kPD_sub hP hD [1, 2, 3, 4, 5, 0, 6] (by decide +kernel) rfl, hf6_0, hf6_1, hf6_2, hf6_3, g_zp, g_zf, g_zs, g_eS, g_eX, by show zs.toInt ≤ zs.toInt + 1 ∧ zs.toInt ≤ zs.toInt; omega, by first | exact Or.inl (by omega) | exact Or.inr ⟨rfl, rfl, rfl⟩, OR_n rfl (pz_0 (Or.inl ⟨by unfold okd; omega, by unfold okd; omega, ps_n (n := x_5.toInt) (n' := (eS 0).toInt) hf6_6 (by rw [ex_5]; rfl)⟩) (by omega))⟩
    · have tc_4 : r_3.toInt = 0 := v_eq c_4
      refine lv_iconst (v := (-1)) hx hb dX12_harm_24 (by decide) ?_
      exact kl_i (v := (-1)) hQQ hx hb hr hlocks hS dX12_harm_25 ⟨0, (-1), zn, eY, zd, zm, zl, eE, zp, zf, zs, eS, eX, ⟨hP, hD⟩, g_zn, g_eY, g_zm, g_eE, g_zp, g_zf, g_zs, g_eS, g_eX, by show zs.toInt ≤ zs.toInt + 1 ∧ zs.toInt ≤ zs.toInt; omega, by first | exact Or.inl (by omega) | exact Or.inr ⟨rfl, rfl, rfl⟩, OR_n rfl (fun c fm v h => by have h1 := h.1; have h2 := h.2.1; unfold okd at h1 h2; omega)⟩

set_option maxHeartbeats 40000000 in
set_option maxRecDepth 100000 in
theorem f_X12_takeText (l : Launch) (dC : Nat → ClassId) (dI : Nat → Nat → Nat) (cI cS : ClassId) (sz : Nat) (oM : Nat) (mT : Nat) (mS : Nat) (mX : Nat) (mL : Nat) (mB : Nat) (mD : Nat) (m1 : Nat) (m2 : Nat) (mR : Nat) (x1 : Nat) (x2 : Nat) (x3 : Nat) (mH : Nat) (mY : Nat) (mE : Nat) (mW : Nat) (mO : Nat) (y1 : Nat) (y2 : Nat) (y3 : Nat) (y4 : Nat) (mZ : Nat) (zt : Int32) (zp : Int32) (zf : Int32) (zh : Int32) (zr : Int32) (zc : Int32) (zy : Int32) (za : Int32) (zb : Int32) (zs : Int32) (zq : Int32) (zw : Int32) (ze : Int32) (zn : Int32) (zm : Int32) (zl : Int32) (zk : Int32) (zd : Int32) (eS : Nat → Int32) (eX : Nat → Int32) (eW : Nat → Int32) (g_zt : 0 ≤ zt.toInt ∧ zt.toInt ≤ 900) (g_zp : 0 ≤ zp.toInt ∧ zp.toInt ≤ 20) (g_zf : 0 ≤ zf.toInt ∧ zf.toInt ≤ 19) (g_zh : 0 ≤ zh.toInt ∧ zh.toInt ≤ 6) (g_zr : 0 ≤ zr.toInt ∧ zr.toInt ≤ 258) (g_zc : 0 ≤ zc.toInt ∧ zc.toInt ≤ 300) (g_zy : 0 ≤ zy.toInt ∧ zy.toInt ≤ 65536) (g_za : 0 ≤ za.toInt ∧ za.toInt ≤ 5) (g_zb : 0 ≤ zb.toInt ∧ zb.toInt ≤ 5) (g_zs : 0 ≤ zs.toInt ∧ zs.toInt ≤ 2000000) (g_zq : -1 ≤ zq.toInt ∧ zq.toInt ≤ 2000000) (g_zn : 0 ≤ zn.toInt ∧ zn.toInt ≤ 2600) (g_zm : 0 ≤ zm.toInt ∧ zm.toInt ≤ 2600) (g_zk : 0 ≤ zk.toInt ∧ zk.toInt ≤ 300) (g_eS : rg 0 300 eS) (g_eX : rg 0 65535 eX) (g_eW : rg 0 65535 eW) : kMv l yX12_takeText wsX12_takeText ({ frames := 0, cells := 0, slots := 0, locals := 0 } : Room) [.ref oM] sz (dC, dI) vwCl [(cI, .int), (cS, .short)] [(oM, .inr (12, [.ref mT, .int zt, .ref mS, .ref mX, .int zp, .int zf, .ref mL, .ref mB, .ref mD, .ref m1, .ref m2, .int zh, .ref mR, .int zr, .ref x1, .ref x2, .ref x3, .int zc, .ref mH, .int zy, .int za, .int zb, .int zs, .int zq, .int zw, .int ze, .ref mY, .int zn, .ref mE, .int zm, .int zl, .ref mW, .int zk, .ref mO, .int zd, .ref y1, .ref y2, .ref y3, .ref y4, .ref mZ])), (mS, .inl (cI, 21, .inl eS)), (mX, .inl (cI, 6300, .inl eX)), (mW, .inl (cI, 300, .inl eW))] (fun _ => True) 0 0 (fun (A : Nat → Prop) (hh9 : Heap) => ∃ (zk' : Int32) (eW' : Nat → Int32), kPD (dC, dI) vwCl A [(oM, .inr (12, [.ref mT, .int zt, .ref mS, .ref mX, .int zp, .int zf, .ref mL, .ref mB, .ref mD, .ref m1, .ref m2, .int zh, .ref mR, .int zr, .ref x1, .ref x2, .ref x3, .int zc, .ref mH, .int zy, .int za, .int zb, .int zs, .int zq, .int zw, .int ze, .ref mY, .int zn, .ref mE, .int zm, .int zl, .ref mW, .int zk', .ref mO, .int zd, .ref y1, .ref y2, .ref y3, .ref y4, .ref mZ])), (mS, .inl (cI, 21, .inl eS)), (mX, .inl (cI, 6300, .inl eX)), (mW, .inl (cI, 300, .inl eW'))] hh9 ∧ (0 ≤ zk'.toInt ∧ zk'.toInt ≤ 300) ∧ (rg 0 65535 eW') ∧ (F_tt zk' eW' eS eX)) := by
  refine kMv_of (cc := cX12_takeText) (maxL := 2) (ret := none) (lv := [(0, .ref oM)]) (by decide +kernel) rfl rfl (Nat.le_of_ble_eq_true rfl) ?_
  intro p e s m below meth c A QQ ls hx hb hr hts hml hown hlocks hA hQQ hK hX hP hD hS hl
  have hown : s.vm.findClass RX12 = some m.cls := hown
  have hcf := k_cf hx hb hml hown hts
  have in_X12 : ∀ w ∈ wsX120, w ∈ wsX12_takeText := fun _ h => List.mem_cons_of_mem _ (List.mem_append_right _ (h))
  replace g_zk := hid g_zk
  refine lv_aload_n hx hb dX12_takeText_0 rfl (lv_at hl 0 rfl) ?_
  refine lv_aload_n hx hb dX12_takeText_1 rfl (lv_at hl 0 rfl) ?_
  refine va_get (D := (dC, dI)) (ci := 12) (v := .ref mS) (C := RX12) (T := TX12) (N := 40) hx hb hts in_X12 hown hK hP 0 rfl rfl 2 (by decide) (hts (.fieldLink RX12 13 "TextMenderModel" "sizes" "[I") (List.mem_of_getElem? (i := 1) rfl)) (fun _ h9 => h9) rfl dX12_takeText_2 ?_
  refine lv_iconst (v := 0) hx hb dX12_takeText_5 (by decide) ?_
  refine va_iald hx hb hK hP 1 0 rfl rfl (by unfold vp_in; decide) dX12_takeText_6 ?_
  refine lv_topi (fun x_1 ex_1 => ?_)
  have tx_1 : 0 ≤ x_1.toInt ∧ x_1.toInt ≤ 300 := rg_at g_eS ex_1
  refine va_put (D := (dC, dI)) (ci := 12) (v := .int x_1) (ty := .int) (C := RX12) (T := TX12) (N := 40) hx hb hts in_X12 tyX12 tyX12_ok nmX12 hown hK hP hD hS 0 rfl rfl 32 (by decide) (hts (.fieldLink RX12 135 "TextMenderModel" "workMany" "I") (List.mem_of_getElem? (i := 2) rfl)) (fun _ h9 => h9) rfl (by decide +kernel) rfl rfl (Nat.le_of_ble_eq_true rfl) dX12_takeText_7 (kW (wn := [(oM, .inr (12, [.ref mT, .int zt, .ref mS, .ref mX, .int zp, .int zf, .ref mL, .ref mB, .ref mD, .ref m1, .ref m2, .int zh, .ref mR, .int zr, .ref x1, .ref x2, .ref x3, .int zc, .ref mH, .int zy, .int za, .int zb, .int zs, .int zq, .int zw, .int ze, .ref mY, .int zn, .ref mE, .int zm, .int zl, .ref mW, .int x_1, .ref mO, .int zd, .ref y1, .ref y2, .ref y3, .ref y4, .ref mZ])), (mS, .inl (cI, 21, .inl eS)), (mX, .inl (cI, 6300, .inl eX)), (mW, .inl (cI, 300, .inl eW))]) rfl (fun H locs hPn hDn hSn => ?_))
  clear hP hD hS
  have hP := hPn
  have hD := hDn
  have hS := hSn
  clear hPn hDn hSn
  refine lv_iconst (v := 0) hx hb dX12_takeText_10 (by decide) ?_
  refine lv_istore_n (lv' := [(1, .int 0), (0, .ref oM)]) hx hb dX12_takeText_11 rfl hl (by decide) rfl (fun ls hl => ?_)
  have LOOP_12 : ∀ (k_12 : Nat) (k : Int32) (eWa : Nat → Int32) (H : Heap) (locs : List Loc) (ls : Array Slot), MSd (300 - k.toInt : Int) k_12 → (0 ≤ k.toInt ∧ k.toInt ≤ 300) → (rg 0 65535 eWa) → (k.toInt ≤ x_1.toInt) → (cpE k.toInt eWa eX) → va_P (dC, dI) vwCl [(oM, .inr (12, [.ref mT, .int zt, .ref mS, .ref mX, .int zp, .int zf, .ref mL, .ref mB, .ref mD, .ref m1, .ref m2, .int zh, .ref mR, .int zr, .ref x1, .ref x2, .ref x3, .int zc, .ref mH, .int zy, .int za, .int zb, .int zs, .int zq, .int zw, .int ze, .ref mY, .int zn, .ref mE, .int zm, .int zl, .ref mW, .int x_1, .ref mO, .int zd, .ref y1, .ref y2, .ref y3, .ref y4, .ref mZ])), (mS, .inl (cI, 21, .inl eS)), (mX, .inl (cI, 6300, .inl eX)), (mW, .inl (cI, 300, .inl eWa))] H → va_D A [(oM, .inr (12, [.ref mT, .int zt, .ref mS, .ref mX, .int zp, .int zf, .ref mL, .ref mB, .ref mD, .ref m1, .ref m2, .int zh, .ref mR, .int zr, .ref x1, .ref x2, .ref x3, .int zc, .ref mH, .int zy, .int za, .int zb, .int zs, .int zq, .int zw, .int ze, .ref mY, .int zn, .ref mE, .int zm, .int zl, .ref mW, .int x_1, .ref mO, .int zd, .ref y1, .ref y2, .ref y3, .ref y4, .ref mZ])), (mS, .inl (cI, 21, .inl eS)), (mX, .inl (cI, 6300, .inl eX)), (mW, .inl (cI, 300, .inl eWa))] → va_S A s.heap H locs → lv_has ls 2 [(1, .int k), (0, .ref oM)] → W p l e (headSpec wsX12_takeText ({ frames := 0, cells := 0, slots := 0, locals := 0 } : Room)).room s m ([.ref oM] : List Value).toArray below meth c H locs 0 0 (MQ below QQ ([.ref oM] : List Value).toArray s 0 0 A) (F0 m 12 ls []) := by
    clear hP hD hS hl
    intro k_12
    induction k_12 with
    | zero =>
      intro k eWa H locs ls hm_12 g_k g_eWa hkk htt hP hD hS hl
      exact ms_0 hm_12
    | succ k_12 ih_12 =>
      intro k eWa H locs ls hm_12 g_k g_eWa hkk htt hP hD hS hl
      refine lv_iload_n hx hb dX12_takeText_12 rfl (lv_at hl 0 rfl) ?_
      refine lv_aload_n hx hb dX12_takeText_13 rfl (lv_at hl 1 rfl) ?_
      refine va_get (D := (dC, dI)) (ci := 12) (v := .int x_1) (C := RX12) (T := TX12) (N := 40) hx hb hts in_X12 hown hK hP 0 rfl rfl 32 (by decide) (hts (.fieldLink RX12 135 "TextMenderModel" "workMany" "I") (List.mem_of_getElem? (i := 2) rfl)) (fun _ h9 => h9) rfl dX12_takeText_14 ?_
      refine lv_icmp_ge (tgt := 38) hx hb dX12_takeText_17 (by decide) (fun c_2 => ?_) (fun c_2 => ?_)
      · have tc_2 : x_1.toInt ≤ k.toInt := v_le c_2
        exact kl_v hQQ hx hb hr hlocks hS dX12_takeText_38 ⟨x_1, eWa, ⟨hP, hD⟩, v_rr tx_1 (by decide) (by decide), g_eWa, ⟨by rw [ex_1]; rfl, fun j hj => htt j (by omega)⟩⟩
      · have tc_2 : k.toInt < x_1.toInt := v_nle c_2
        refine lv_aload_n hx hb dX12_takeText_20 rfl (lv_at hl 1 rfl) ?_
        refine va_get (D := (dC, dI)) (ci := 12) (v := .ref mW) (C := RX12) (T := TX12) (N := 40) hx hb hts in_X12 hown hK hP 0 rfl rfl 31 (by decide) (hts (.fieldLink RX12 64 "TextMenderModel" "work" "[I") (List.mem_of_getElem? (i := 3) rfl)) (fun _ h9 => h9) rfl dX12_takeText_21 ?_
        refine lv_iload_n hx hb dX12_takeText_24 rfl (lv_at hl 0 rfl) ?_
        refine lv_aload_n hx hb dX12_takeText_25 rfl (lv_at hl 1 rfl) ?_
        refine va_get (D := (dC, dI)) (ci := 12) (v := .ref mX) (C := RX12) (T := TX12) (N := 40) hx hb hts in_X12 hown hK hP 0 rfl rfl 3 (by decide) (hts (.fieldLink RX12 16 "TextMenderModel" "texts" "[I") (List.mem_of_getElem? (i := 4) rfl)) (fun _ h9 => h9) rfl dX12_takeText_26 ?_
        refine lv_iload_n hx hb dX12_takeText_29 rfl (lv_at hl 0 rfl) ?_
        refine va_iald hx hb hK hP 2 0 rfl rfl (v_inR g_k (by decide) (by decide)) dX12_takeText_30 ?_
        refine lv_topi (fun x_3 ex_3 => ?_)
        have tx_3 : 0 ≤ x_3.toInt ∧ x_3.toInt ≤ 65535 := rg_at g_eX ex_3
        obtain ⟨f_4, ef_4⟩ : ∃ g : Nat → Int32, g = upd eWa (k : Int32).toNatClampNeg x_3 := ⟨_, rfl⟩
        refine va_iast hx hb hK hP hD hS 3 0 rfl rfl (v_in (by omega)) dX12_takeText_31 (kWf (g := f_4) (F := fun f_4 => [(oM, .inr (12, [.ref mT, .int zt, .ref mS, .ref mX, .int zp, .int zf, .ref mL, .ref mB, .ref mD, .ref m1, .ref m2, .int zh, .ref mR, .int zr, .ref x1, .ref x2, .ref x3, .int zc, .ref mH, .int zy, .int za, .int zb, .int zs, .int zq, .int zw, .int ze, .ref mY, .int zn, .ref mE, .int zm, .int zl, .ref mW, .int x_1, .ref mO, .int zd, .ref y1, .ref y2, .ref y3, .ref y4, .ref mZ])), (mS, .inl (cI, 21, .inl eS)), (mX, .inl (cI, 6300, .inl eX)), (mW, .inl (cI, 300, .inl f_4))]) ef_4 rfl (fun H locs hPn hDn hSn => ?_))
        clear hP hD hS
        have hP := hPn
        have hD := hDn
        have hS := hSn
        clear hPn hDn hSn
        have g_f4 : rg 0 65535 f_4 := rg_upd ef_4 g_eWa (by omega)
        obtain ⟨x_5, ex_5⟩ : ∃ y : Int32, y = k + 1 := ⟨_, rfl⟩
        have tx_5 : x_5.toInt = k.toInt + 1 := v_addR (l2 := 1) (h2 := 1) ex_5 g_k (by decide) (by decide) (by decide)
        refine lv_iinc (v := x_5) (lv' := [(1, .int x_5), (0, .ref oM)]) hx hb dX12_takeText_32 hl (k := 0) rfl (by rw [ex_5]; rfl) (by decide) rfl (fun ls hl => ?_)
        refine lv_goto (tgt := 12) hx hb dX12_takeText_35 (by decide) ?_
        exact ih_12 x_5 f_4 _ _ _ (ms_lt hm_12 (by show ((300 - x_5.toInt : Int)) < 300 - k.toInt; omega) (by show (0 : Int) < 300 - k.toInt; omega)) (by show 0 ≤ x_5.toInt ∧ x_5.toInt ≤ 300; omega) (g_f4) (by show x_5.toInt ≤ x_1.toInt; omega) (cpE_s htt ex_3 ef_4 (by omega) (by omega)) hP hD hS (lv_sub hl [0, 1] rfl)
  exact LOOP_12 _ 0 eW _ _ _ (ms_s _) (by decide) (g_eW) (by show 0 ≤ x_1.toInt; omega) (cpE_0 (by decide)) hP hD hS (lv_sub hl [0, 1] rfl)

set_option maxHeartbeats 40000000 in
set_option maxRecDepth 100000 in
theorem f_X12_undo (l : Launch) (dC : Nat → ClassId) (dI : Nat → Nat → Nat) (cI cS : ClassId) (sz : Nat) (oM : Nat) (mT : Nat) (mS : Nat) (mX : Nat) (mL : Nat) (mB : Nat) (mD : Nat) (m1 : Nat) (m2 : Nat) (mR : Nat) (x1 : Nat) (x2 : Nat) (x3 : Nat) (mH : Nat) (mY : Nat) (mE : Nat) (mW : Nat) (mO : Nat) (y1 : Nat) (y2 : Nat) (y3 : Nat) (y4 : Nat) (mZ : Nat) (zt : Int32) (zp : Int32) (zf : Int32) (zh : Int32) (zr : Int32) (zc : Int32) (zy : Int32) (za : Int32) (zb : Int32) (zs : Int32) (zq : Int32) (zw : Int32) (ze : Int32) (zn : Int32) (zm : Int32) (zl : Int32) (zk : Int32) (zd : Int32) (eY : Nat → Int32) (eB : Nat → Int32) (eL : Nat → Int32) (eE : Nat → Int32) (eW : Nat → Int32) (eO : Nat → Int32) (eS : Nat → Int32) (eX : Nat → Int32) (a : Int32) (b : Int32) (g_zt : 0 ≤ zt.toInt ∧ zt.toInt ≤ 900) (g_zp : 0 ≤ zp.toInt ∧ zp.toInt ≤ 20) (g_zf : 0 ≤ zf.toInt ∧ zf.toInt ≤ 19) (g_zh : 0 ≤ zh.toInt ∧ zh.toInt ≤ 6) (g_zr : 0 ≤ zr.toInt ∧ zr.toInt ≤ 258) (g_zc : 0 ≤ zc.toInt ∧ zc.toInt ≤ 300) (g_zy : 0 ≤ zy.toInt ∧ zy.toInt ≤ 65536) (g_za : 0 ≤ za.toInt ∧ za.toInt ≤ 5) (g_zb : 0 ≤ zb.toInt ∧ zb.toInt ≤ 5) (g_zs : 0 ≤ zs.toInt ∧ zs.toInt ≤ 2000000) (g_zq : -1 ≤ zq.toInt ∧ zq.toInt ≤ 2000000) (g_zn : 0 ≤ zn.toInt ∧ zn.toInt ≤ 2600) (g_zm : 0 ≤ zm.toInt ∧ zm.toInt ≤ 2600) (g_zk : 0 ≤ zk.toInt ∧ zk.toInt ≤ 300) (g_eY : rg 0 255 eY) (g_eB : rg (-1) 255 eB) (g_eL : rg (-1) 65535 eL) (g_eE : rg 0 65535 eE) (g_eW : rg 0 65535 eW) (g_eO : rg 0 65535 eO) (g_eS : rg 0 300 eS) (g_eX : rg 0 65535 eX) (hxl : ∀ j : Nat, (j : Int) < (eS 0).toInt → isLz (eX j)) (hlb : LBr eL eB) (hzs : zs.toInt ≤ 1000000) : kMi l yX12_undo wsX12_undo ({ frames := 5, cells := 0, slots := 0, locals := 120 } : Room) [.ref oM, .int a, .int b] sz (dC, dI) vwCl [(cI, .int), (cS, .short)] [(oM, .inr (12, [.ref mT, .int zt, .ref mS, .ref mX, .int zp, .int zf, .ref mL, .ref mB, .ref mD, .ref m1, .ref m2, .int zh, .ref mR, .int zr, .ref x1, .ref x2, .ref x3, .int zc, .ref mH, .int zy, .int za, .int zb, .int zs, .int zq, .int zw, .int ze, .ref mY, .int zn, .ref mE, .int zm, .int zl, .ref mW, .int zk, .ref mO, .int zd, .ref y1, .ref y2, .ref y3, .ref y4, .ref mZ])), (mY, .inl (cI, 2600, .inl eY)), (mB, .inl (cS, 131072, .inl eB)), (mL, .inl (cI, 512, .inl eL)), (mE, .inl (cI, 2600, .inl eE)), (mW, .inl (cI, 300, .inl eW)), (mO, .inl (cI, 300, .inl eO)), (mS, .inl (cI, 21, .inl eS)), (mX, .inl (cI, 6300, .inl eX))] (fun _ => True) 0 0 (fun (A : Nat → Prop) (r : Int32) (hh9 : Heap) => ∃ (ze' : Int32) (zw' : Int32) (zk' : Int32) (eW' : Nat → Int32) (eO' : Nat → Int32) (zn' : Int32) (eY' : Nat → Int32) (zd' : Int32) (zm' : Int32) (zl' : Int32) (eE' : Nat → Int32) (zp' : Int32) (zf' : Int32) (zs' : Int32) (eS' : Nat → Int32) (eX' : Nat → Int32), kPD (dC, dI) vwCl A [(oM, .inr (12, [.ref mT, .int zt, .ref mS, .ref mX, .int zp', .int zf', .ref mL, .ref mB, .ref mD, .ref m1, .ref m2, .int zh, .ref mR, .int zr, .ref x1, .ref x2, .ref x3, .int zc, .ref mH, .int zy, .int za, .int zb, .int zs', .int zq, .int zw', .int ze', .ref mY, .int zn', .ref mE, .int zm', .int zl', .ref mW, .int zk', .ref mO, .int zd', .ref y1, .ref y2, .ref y3, .ref y4, .ref mZ])), (mY, .inl (cI, 2600, .inl eY')), (mB, .inl (cS, 131072, .inl eB)), (mL, .inl (cI, 512, .inl eL)), (mE, .inl (cI, 2600, .inl eE')), (mW, .inl (cI, 300, .inl eW')), (mO, .inl (cI, 300, .inl eO')), (mS, .inl (cI, 21, .inl eS')), (mX, .inl (cI, 6300, .inl eX'))] hh9 ∧ (0 ≤ zk'.toInt ∧ zk'.toInt ≤ 300) ∧ (rg 0 65535 eW') ∧ (rg 0 65535 eO') ∧ (0 ≤ zn'.toInt ∧ zn'.toInt ≤ 2600) ∧ (rg 0 255 eY') ∧ (0 ≤ zm'.toInt ∧ zm'.toInt ≤ 2600) ∧ (rg 0 65535 eE') ∧ (0 ≤ zp'.toInt ∧ zp'.toInt ≤ 20) ∧ (0 ≤ zf'.toInt ∧ zf'.toInt ≤ 19) ∧ (0 ≤ zs'.toInt ∧ zs'.toInt ≤ 2000000) ∧ (rg 0 300 eS') ∧ (rg 0 65535 eX') ∧ (zs'.toInt ≤ zs.toInt + 1 ∧ zs.toInt ≤ zs'.toInt) ∧ (F_st zs zs' eX eX' eS eS') ∧ (OR (-1) r zs zs' zp zp' zf zf' eS eS' eX eX' (hmP b a (fun k => eL k) (fun k => eL (256 + k)) (Br b eB) (eS 0).toInt eX))) := by
  refine kMi_of (cc := cX12_undo) (maxL := 3) (ret := (some .int)) (lv := [(0, .ref oM), (1, .int a), (2, .int b)]) (by decide +kernel) rfl rfl (Nat.le_of_ble_eq_true rfl) ?_
  intro p e s m below meth c A QQ ls hx hb hr hts hml hown hlocks hA hQQ hK hX hP hD hS hl
  have hown : s.vm.findClass RX12 = some m.cls := hown
  have hcf := k_cf hx hb hml hown hts
  have in_X12 : ∀ w ∈ wsX120, w ∈ wsX12_undo := fun _ h => List.mem_cons_of_mem _ (List.mem_append_right _ (h))
  replace g_zt := hid g_zt
  replace g_zh := hid g_zh
  replace g_zr := hid g_zr
  replace g_zc := hid g_zc
  replace g_zy := hid g_zy
  replace g_za := hid g_za
  replace g_zb := hid g_zb
  replace g_zq := hid g_zq
  replace g_zn := hid g_zn
  replace g_zm := hid g_zm
  replace g_zk := hid g_zk
  refine lv_aload_n hx hb dX12_undo_0 rfl (lv_at hl 0 rfl) ?_
  refine lv_iconst (v := 0) hx hb dX12_undo_1 (by decide) ?_
  refine va_put (D := (dC, dI)) (ci := 12) (v := .int 0) (ty := .int) (C := RX12) (T := TX12) (N := 40) hx hb hts in_X12 tyX12 tyX12_ok nmX12 hown hK hP hD hS 0 rfl rfl 25 (by decide) (hts (.fieldLink RX12 85 "TextMenderModel" "thrown" "I") (List.mem_of_getElem? (i := 1) rfl)) (fun _ h9 => h9) rfl (by decide +kernel) rfl rfl (Nat.le_of_ble_eq_true rfl) dX12_undo_2 (kW (wn := [(oM, .inr (12, [.ref mT, .int zt, .ref mS, .ref mX, .int zp, .int zf, .ref mL, .ref mB, .ref mD, .ref m1, .ref m2, .int zh, .ref mR, .int zr, .ref x1, .ref x2, .ref x3, .int zc, .ref mH, .int zy, .int za, .int zb, .int zs, .int zq, .int zw, .int 0, .ref mY, .int zn, .ref mE, .int zm, .int zl, .ref mW, .int zk, .ref mO, .int zd, .ref y1, .ref y2, .ref y3, .ref y4, .ref mZ])), (mY, .inl (cI, 2600, .inl eY)), (mB, .inl (cS, 131072, .inl eB)), (mL, .inl (cI, 512, .inl eL)), (mE, .inl (cI, 2600, .inl eE)), (mW, .inl (cI, 300, .inl eW)), (mO, .inl (cI, 300, .inl eO)), (mS, .inl (cI, 21, .inl eS)), (mX, .inl (cI, 6300, .inl eX))]) rfl (fun H locs hPn hDn hSn => ?_))
  clear hP hD hS
  have hP := hPn
  have hD := hDn
  have hS := hSn
  clear hPn hDn hSn
  refine lv_aload_n hx hb dX12_undo_5 rfl (lv_at hl 0 rfl) ?_
  refine lv_iconst (v := (-1)) hx hb dX12_undo_6 (by decide) ?_
  refine va_put (D := (dC, dI)) (ci := 12) (v := .int (-1)) (ty := .int) (C := RX12) (T := TX12) (N := 40) hx hb hts in_X12 tyX12 tyX12_ok nmX12 hown hK hP hD hS 0 rfl rfl 24 (by decide) (hts (.fieldLink RX12 55 "TextMenderModel" "where" "I") (List.mem_of_getElem? (i := 2) rfl)) (fun _ h9 => h9) rfl (by decide +kernel) rfl rfl (Nat.le_of_ble_eq_true rfl) dX12_undo_7 (kW (wn := [(oM, .inr (12, [.ref mT, .int zt, .ref mS, .ref mX, .int zp, .int zf, .ref mL, .ref mB, .ref mD, .ref m1, .ref m2, .int zh, .ref mR, .int zr, .ref x1, .ref x2, .ref x3, .int zc, .ref mH, .int zy, .int za, .int zb, .int zs, .int zq, .int (-1), .int 0, .ref mY, .int zn, .ref mE, .int zm, .int zl, .ref mW, .int zk, .ref mO, .int zd, .ref y1, .ref y2, .ref y3, .ref y4, .ref mZ])), (mY, .inl (cI, 2600, .inl eY)), (mB, .inl (cS, 131072, .inl eB)), (mL, .inl (cI, 512, .inl eL)), (mE, .inl (cI, 2600, .inl eE)), (mW, .inl (cI, 300, .inl eW)), (mO, .inl (cI, 300, .inl eO)), (mS, .inl (cI, 21, .inl eS)), (mX, .inl (cI, 6300, .inl eX))]) rfl (fun H locs hPn hDn hSn => ?_))
  clear hP hD hS
  have hP := hPn
  have hD := hDn
  have hS := hSn
  clear hPn hDn hSn
  refine lv_iload_n hx hb dX12_undo_10 rfl (lv_at hl 1 rfl) ?_
  refine kS_i (rest := []) hcf (m_X12_isCode l dC dI cI cS H.size a ) kc_X12_isCode gX12_undo_X12_isCode rfl rfl ⟨Nat.le_of_ble_eq_true rfl, Nat.le_of_ble_eq_true rfl⟩ kX_t hK hP hD hS hA [] [0, 1, 2, 3, 4, 5, 6, 7, 8] rfl (by decide +kernel) rfl hl rfl (Nat.le_of_ble_eq_true rfl) dX12_undo_11 ⟨Nat.le_of_ble_eq_true rfl, Nat.le_of_ble_eq_true rfl⟩ (fun r_1 H locs hB hJ hSn => ?_)
  obtain ⟨⟨hP1, hD1⟩, hf1_0, hf1_1⟩ := hB
  obtain ⟨hPn, hDn⟩ := hJ _ hP1 hD1 [(oM, .inr (12, [.ref mT, .int zt, .ref mS, .ref mX, .int zp, .int zf, .ref mL, .ref mB, .ref mD, .ref m1, .ref m2, .int zh, .ref mR, .int zr, .ref x1, .ref x2, .ref x3, .int zc, .ref mH, .int zy, .int za, .int zb, .int zs, .int zq, .int (-1), .int 0, .ref mY, .int zn, .ref mE, .int zm, .int zl, .ref mW, .int zk, .ref mO, .int zd, .ref y1, .ref y2, .ref y3, .ref y4, .ref mZ])), (mY, .inl (cI, 2600, .inl eY)), (mB, .inl (cS, 131072, .inl eB)), (mL, .inl (cI, 512, .inl eL)), (mE, .inl (cI, 2600, .inl eE)), (mW, .inl (cI, 300, .inl eW)), (mO, .inl (cI, 300, .inl eO)), (mS, .inl (cI, 21, .inl eS)), (mX, .inl (cI, 6300, .inl eX))] rfl
  clear hP hD hS hJ hP1 hD1
  have hP := hPn
  have hD := hDn
  have hS := hSn
  clear hPn hDn hSn
  refine lv_if_eq (tgt := 24) hx hb dX12_undo_14 (by decide) (fun c_2 => ?_) (fun c_2 => ?_)
  · have tc_2 : r_1.toInt = 0 := v_eq c_2
    refine lv_iconst (v := (-1)) hx hb dX12_undo_24 (by decide) ?_
    exact kl_i (v := (-1)) hQQ hx hb hr hlocks hS dX12_undo_25 ⟨0, (-1), zk, eW, eO, zn, eY, zd, zm, zl, eE, zp, zf, zs, eS, eX, ⟨hP, hD⟩, g_zk, g_eW, g_eO, g_zn, g_eY, g_zm, g_eE, g_zp, g_zf, g_zs, g_eS, g_eX, by show zs.toInt ≤ zs.toInt + 1 ∧ zs.toInt ≤ zs.toInt; omega, by first | exact Or.inl (by omega) | exact Or.inr ⟨rfl, rfl, rfl⟩, OR_n rfl (fun c fm v h => by have h1 := h.1; have h2 := h.2.1; unfold okd at h1 h2; omega)⟩
  · have tc_2 : ¬ r_1.toInt = 0 := v_ne c_2
    refine lv_iload_n hx hb dX12_undo_17 rfl (lv_at hl 2 rfl) ?_
    refine kS_i (rest := []) hcf (m_X12_isCode l dC dI cI cS H.size b ) kc_X12_isCode gX12_undo_X12_isCode rfl rfl ⟨Nat.le_of_ble_eq_true rfl, Nat.le_of_ble_eq_true rfl⟩ kX_t hK hP hD hS hA [] [0, 1, 2, 3, 4, 5, 6, 7, 8] rfl (by decide +kernel) rfl hl rfl (Nat.le_of_ble_eq_true rfl) dX12_undo_18 ⟨Nat.le_of_ble_eq_true rfl, Nat.le_of_ble_eq_true rfl⟩ (fun r_3 H locs hB hJ hSn => ?_)
    obtain ⟨⟨hP1, hD1⟩, hf3_0, hf3_1⟩ := hB
    obtain ⟨hPn, hDn⟩ := hJ _ hP1 hD1 [(oM, .inr (12, [.ref mT, .int zt, .ref mS, .ref mX, .int zp, .int zf, .ref mL, .ref mB, .ref mD, .ref m1, .ref m2, .int zh, .ref mR, .int zr, .ref x1, .ref x2, .ref x3, .int zc, .ref mH, .int zy, .int za, .int zb, .int zs, .int zq, .int (-1), .int 0, .ref mY, .int zn, .ref mE, .int zm, .int zl, .ref mW, .int zk, .ref mO, .int zd, .ref y1, .ref y2, .ref y3, .ref y4, .ref mZ])), (mY, .inl (cI, 2600, .inl eY)), (mB, .inl (cS, 131072, .inl eB)), (mL, .inl (cI, 512, .inl eL)), (mE, .inl (cI, 2600, .inl eE)), (mW, .inl (cI, 300, .inl eW)), (mO, .inl (cI, 300, .inl eO)), (mS, .inl (cI, 21, .inl eS)), (mX, .inl (cI, 6300, .inl eX))] rfl
    clear hP hD hS hJ hP1 hD1
    have hP := hPn
    have hD := hDn
    have hS := hSn
    clear hPn hDn hSn
    refine lv_if_ne (tgt := 26) hx hb dX12_undo_21 (by decide) (fun c_4 => ?_) (fun c_4 => ?_)
    · have tc_4 : ¬ r_3.toInt = 0 := v_ne c_4
      refine lv_aload_n hx hb dX12_undo_26 rfl (lv_at hl 0 rfl) ?_
      refine kV_v (rest := []) (q0 := 0) (ci := 12) hcf (f_X12_takeText l dC dI cI cS H.size oM mT mS mX mL mB mD m1 m2 mR x1 x2 x3 mH mY mE mW mO y1 y2 y3 y4 mZ zt zp zf zh zr zc zy za zb zs zq (-1) 0 zn zm zl zk zd eS eX eW (g_zt) (g_zp) (g_zf) (g_zh) (g_zr) (g_zc) (g_zy) (g_za) (g_zb) (g_zs) (g_zq) (g_zn) (g_zm) (g_zk) (g_eS) (g_eX) (g_eW)) kc_X12_takeText gX12_undo_X12_takeText rfl rfl rfl ⟨Nat.le_of_ble_eq_true rfl, Nat.le_of_ble_eq_true rfl⟩ kX_t hK hP hD hS hA [0, 7, 8, 5] [1, 2, 3, 4, 6] rfl (by decide +kernel) rfl rfl rfl hl rfl (Nat.le_of_ble_eq_true rfl) dX12_undo_27 ⟨Nat.le_of_ble_eq_true rfl, Nat.le_of_ble_eq_true rfl⟩ (fun H locs hB hJ hSn => ?_)
      obtain ⟨zk_5, eW_5, ⟨hP1, hD1⟩, hf5_0, hf5_1, hf5_2⟩ := hB
      obtain ⟨hPn, hDn⟩ := hJ _ hP1 hD1 [(mY, .inl (cI, 2600, .inl eY)), (mB, .inl (cS, 131072, .inl eB)), (mL, .inl (cI, 512, .inl eL)), (mE, .inl (cI, 2600, .inl eE)), (mO, .inl (cI, 300, .inl eO)), (oM, .inr (12, [.ref mT, .int zt, .ref mS, .ref mX, .int zp, .int zf, .ref mL, .ref mB, .ref mD, .ref m1, .ref m2, .int zh, .ref mR, .int zr, .ref x1, .ref x2, .ref x3, .int zc, .ref mH, .int zy, .int za, .int zb, .int zs, .int zq, .int (-1), .int 0, .ref mY, .int zn, .ref mE, .int zm, .int zl, .ref mW, .int zk_5, .ref mO, .int zd, .ref y1, .ref y2, .ref y3, .ref y4, .ref mZ])), (mS, .inl (cI, 21, .inl eS)), (mX, .inl (cI, 6300, .inl eX)), (mW, .inl (cI, 300, .inl eW_5))] rfl
      clear hP hD hS hJ hP1 hD1
      have hP := hPn
      have hD := hDn
      have hS := hSn
      clear hPn hDn hSn
      refine lv_aload_n hx hb dX12_undo_30 rfl (lv_at hl 0 rfl) ?_
      refine lv_iload_n hx hb dX12_undo_31 rfl (lv_at hl 1 rfl) ?_
      refine lv_iload_n hx hb dX12_undo_32 rfl (lv_at hl 2 rfl) ?_
      refine kV_i (rest := []) (q0 := 0) (ci := 12) hcf (f_X12_undoes l dC dI cI cS H.size oM mT mS mX mL mB mD m1 m2 mR x1 x2 x3 mH mY mE mW mO y1 y2 y3 y4 mZ zt zp zf zh zr zc zy za zb zs zq (-1) 0 zn zm zl zk_5 zd eY eB eL eE eW_5 eO a b (g_zt) (g_zp) (g_zf) (g_zh) (g_zr) (g_zc) (g_zy) (g_za) (g_zb) (g_zs) (g_zq) (g_zn) (g_zm) (hf5_0) (g_eY) (g_eB) (g_eL) (g_eE) (hf5_1) (g_eO) (by omega) (by omega) (fun j hj => by rw [hf5_2.2 j hj]; exact hxl j (by rw [← hf5_2.1]; exact hj)) (hlb)) kc_X12_undoes gX12_undo_X12_undoes rfl rfl rfl ⟨Nat.le_of_ble_eq_true rfl, Nat.le_of_ble_eq_true rfl⟩ kX_t hK hP hD hS hA [5, 0, 1, 2, 3, 8, 4] [6, 7] rfl (by decide +kernel) rfl rfl rfl hl rfl (Nat.le_of_ble_eq_true rfl) dX12_undo_33 ⟨Nat.le_of_ble_eq_true rfl, Nat.le_of_ble_eq_true rfl⟩ (fun r_6 H locs hB hJ hSn => ?_)
      obtain ⟨zn_6, eY_6, zd_6, zm_6, zl_6, eE_6, zk_6, eW_6, eO_6, ⟨hP1, hD1⟩, hf6_0, hf6_1, hf6_2, hf6_3, hf6_4, hf6_5, hf6_6, hf6_7, hf6_8⟩ := hB
      obtain ⟨hPn, hDn⟩ := hJ _ hP1 hD1 [(mS, .inl (cI, 21, .inl eS)), (mX, .inl (cI, 6300, .inl eX)), (oM, .inr (12, [.ref mT, .int zt, .ref mS, .ref mX, .int zp, .int zf, .ref mL, .ref mB, .ref mD, .ref m1, .ref m2, .int zh, .ref mR, .int zr, .ref x1, .ref x2, .ref x3, .int zc, .ref mH, .int zy, .int za, .int zb, .int zs, .int zq, .int (-1), .int 0, .ref mY, .int zn_6, .ref mE, .int zm_6, .int zl_6, .ref mW, .int zk_6, .ref mO, .int zd_6, .ref y1, .ref y2, .ref y3, .ref y4, .ref mZ])), (mY, .inl (cI, 2600, .inl eY_6)), (mB, .inl (cS, 131072, .inl eB)), (mL, .inl (cI, 512, .inl eL)), (mE, .inl (cI, 2600, .inl eE_6)), (mW, .inl (cI, 300, .inl eW_6)), (mO, .inl (cI, 300, .inl eO_6))] rfl
      clear hP hD hS hJ hP1 hD1
      have hP := hPn
      have hD := hDn
      have hS := hSn
      clear hPn hDn hSn
      refine lv_if_ne (tgt := 49) hx hb dX12_undo_36 (by decide) (fun c_7 => ?_) (fun c_7 => ?_)
      · have tc_7 : ¬ r_6.toInt = 0 := v_ne c_7
        refine lv_aload_n hx hb dX12_undo_49 rfl (lv_at hl 0 rfl) ?_
        refine lv_aload_n hx hb dX12_undo_50 rfl (lv_at hl 0 rfl) ?_
        refine va_get (D := (dC, dI)) (ci := 12) (v := .ref mW) (C := RX12) (T := TX12) (N := 40) hx hb hts in_X12 hown hK hP 2 rfl rfl 31 (by decide) (hts (.fieldLink RX12 64 "TextMenderModel" "work" "[I") (List.mem_of_getElem? (i := 4) rfl)) (fun _ h9 => h9) rfl dX12_undo_51 ?_
        refine lv_aload_n hx hb dX12_undo_54 rfl (lv_at hl 0 rfl) ?_
        refine va_get (D := (dC, dI)) (ci := 12) (v := .int zk_6) (C := RX12) (T := TX12) (N := 40) hx hb hts in_X12 hown hK hP 2 rfl rfl 32 (by decide) (hts (.fieldLink RX12 135 "TextMenderModel" "workMany" "I") (List.mem_of_getElem? (i := 5) rfl)) (fun _ h9 => h9) rfl dX12_undo_55 ?_
        refine kV_v (rest := []) (q0 := 0) (ci := 12) hcf (f_X12_bec l dC dI cI cS H.size oM mW mT mS mX mL mB mD m1 m2 mR x1 x2 x3 mH mY mE mW mO y1 y2 y3 y4 mZ 300 zt zp zf zh zr zc zy za zb zs zq (-1) 0 zn_6 zm_6 zl_6 zk_6 zd_6 eS eX eW_6 zk_6 (g_zt) (g_zp) (g_zf) (g_zh) (g_zr) (g_zc) (g_zy) (g_za) (g_zb) (g_zs) (g_zq) (hf6_0) (hf6_2) (hf6_4) (g_eS) (g_eX) (hf6_4) (by omega) (by omega) (prg_of hf6_5) (by omega)) kc_X12_become gX12_undo_X12_become rfl rfl rfl ⟨Nat.le_of_ble_eq_true rfl, Nat.le_of_ble_eq_true rfl⟩ kX_t hK hP hD hS hA [2, 0, 1, 7] [3, 4, 5, 6, 8] rfl (by decide +kernel) rfl rfl rfl hl rfl (Nat.le_of_ble_eq_true rfl) dX12_undo_58 ⟨Nat.le_of_ble_eq_true rfl, Nat.le_of_ble_eq_true rfl⟩ (fun H locs hB hJ hSn => ?_)
        obtain ⟨zp_8, zf_8, zs_8, eS_8, eX_8, ⟨hP1, hD1⟩, hf8_0, hf8_1, hf8_2, hf8_3, hf8_4, hf8_5, hf8_6⟩ := hB
        obtain ⟨hPn, hDn⟩ := hJ _ hP1 hD1 [(mY, .inl (cI, 2600, .inl eY_6)), (mB, .inl (cS, 131072, .inl eB)), (mL, .inl (cI, 512, .inl eL)), (mE, .inl (cI, 2600, .inl eE_6)), (mO, .inl (cI, 300, .inl eO_6)), (oM, .inr (12, [.ref mT, .int zt, .ref mS, .ref mX, .int zp_8, .int zf_8, .ref mL, .ref mB, .ref mD, .ref m1, .ref m2, .int zh, .ref mR, .int zr, .ref x1, .ref x2, .ref x3, .int zc, .ref mH, .int zy, .int za, .int zb, .int zs_8, .int zq, .int (-1), .int 0, .ref mY, .int zn_6, .ref mE, .int zm_6, .int zl_6, .ref mW, .int zk_6, .ref mO, .int zd_6, .ref y1, .ref y2, .ref y3, .ref y4, .ref mZ])), (mS, .inl (cI, 21, .inl eS_8)), (mX, .inl (cI, 6300, .inl eX_8)), (mW, .inl (cI, 300, .inl eW_6))] rfl
        clear hP hD hS hJ hP1 hD1
        have hP := hPn
        have hD := hDn
        have hS := hSn
        clear hPn hDn hSn
        refine lv_aload_n hx hb dX12_undo_61 rfl (lv_at hl 0 rfl) ?_
        refine va_get (D := (dC, dI)) (ci := 12) (v := .int zk_6) (C := RX12) (T := TX12) (N := 40) hx hb hts in_X12 hown hK hP 5 rfl rfl 32 (by decide) (hts (.fieldLink RX12 135 "TextMenderModel" "workMany" "I") (List.mem_of_getElem? (i := 5) rfl)) (fun _ h9 => h9) rfl dX12_undo_62 ?_
        exact kl_i (v := zk_6) hQQ hx hb hr hlocks hS dX12_undo_65 ⟨0, (-1), zk_6, eW_6, eO_6, zn_6, eY_6, zd_6, zm_6, zl_6, eE_6, zp_8, zf_8, zs_8, eS_8, eX_8, kPD_sub hP hD [5, 0, 1, 2, 3, 8, 4, 6, 7] (by decide +kernel) rfl, hf6_4, hf6_5, hf6_6, hf6_0, hf6_1, hf6_2, hf6_3, hf8_0, hf8_1, hf8_2, hf8_3, hf8_4, by show zs_8.toInt ≤ zs.toInt + 1 ∧ zs.toInt ≤ zs_8.toInt; omega, by first | exact Or.inl (by omega) | exact Or.inr ⟨rfl, rfl, rfl⟩, OR_y ((pz_1 (Or.inl ⟨by unfold okd; omega, by unfold okd; omega, ps_n (n' := (eS 0).toInt) (ps_g hf6_8 (fun j hj => hf5_2.2 j hj)) (by rw [hf5_2.1])⟩) (by omega)).imp (fun c hc => ⟨hc.1, hc.2 _ (by first | rfl | omega)⟩)) hf8_6 (by omega)⟩
      · have tc_7 : r_6.toInt = 0 := v_eq c_7
        refine lv_aload_n hx hb dX12_undo_39 rfl (lv_at hl 0 rfl) ?_
        refine lv_aload_n hx hb dX12_undo_40 rfl (lv_at hl 0 rfl) ?_
        refine va_get (D := (dC, dI)) (ci := 12) (v := .int zl_6) (C := RX12) (T := TX12) (N := 40) hx hb hts in_X12 hown hK hP 2 rfl rfl 30 (by decide) (hts (.fieldLink RX12 102 "TextMenderModel" "faultAt" "I") (List.mem_of_getElem? (i := 3) rfl)) (fun _ h9 => h9) rfl dX12_undo_41 ?_
        refine va_put (D := (dC, dI)) (ci := 12) (v := .int zl_6) (ty := .int) (C := RX12) (T := TX12) (N := 40) hx hb hts in_X12 tyX12 tyX12_ok nmX12 hown hK hP hD hS 2 rfl rfl 24 (by decide) (hts (.fieldLink RX12 55 "TextMenderModel" "where" "I") (List.mem_of_getElem? (i := 2) rfl)) (fun _ h9 => h9) rfl (by decide +kernel) rfl rfl (Nat.le_of_ble_eq_true rfl) dX12_undo_44 (kW (wn := [(mS, .inl (cI, 21, .inl eS)), (mX, .inl (cI, 6300, .inl eX)), (oM, .inr (12, [.ref mT, .int zt, .ref mS, .ref mX, .int zp, .int zf, .ref mL, .ref mB, .ref mD, .ref m1, .ref m2, .int zh, .ref mR, .int zr, .ref x1, .ref x2, .ref x3, .int zc, .ref mH, .int zy, .int za, .int zb, .int zs, .int zq, .int zl_6, .int 0, .ref mY, .int zn_6, .ref mE, .int zm_6, .int zl_6, .ref mW, .int zk_6, .ref mO, .int zd_6, .ref y1, .ref y2, .ref y3, .ref y4, .ref mZ])), (mY, .inl (cI, 2600, .inl eY_6)), (mB, .inl (cS, 131072, .inl eB)), (mL, .inl (cI, 512, .inl eL)), (mE, .inl (cI, 2600, .inl eE_6)), (mW, .inl (cI, 300, .inl eW_6)), (mO, .inl (cI, 300, .inl eO_6))]) rfl (fun H locs hPn hDn hSn => ?_))
        clear hP hD hS
        have hP := hPn
        have hD := hDn
        have hS := hSn
        clear hPn hDn hSn
        refine lv_iconst (v := (-1)) hx hb dX12_undo_47 (by decide) ?_
        exact kl_i (v := (-1)) hQQ hx hb hr hlocks hS dX12_undo_48 ⟨0, zl_6, zk_6, eW_6, eO_6, zn_6, eY_6, zd_6, zm_6, zl_6, eE_6, zp, zf, zs, eS, eX, kPD_sub hP hD [2, 3, 4, 5, 6, 7, 8, 0, 1] (by decide +kernel) rfl, hf6_4, hf6_5, hf6_6, hf6_0, hf6_1, hf6_2, hf6_3, g_zp, g_zf, g_zs, g_eS, g_eX, by show zs.toInt ≤ zs.toInt + 1 ∧ zs.toInt ≤ zs.toInt; omega, by first | exact Or.inl (by omega) | exact Or.inr ⟨rfl, rfl, rfl⟩, OR_n rfl (pz_0 (Or.inl ⟨by unfold okd; omega, by unfold okd; omega, ps_n (n' := (eS 0).toInt) (ps_g hf6_8 (fun j hj => hf5_2.2 j hj)) (by rw [hf5_2.1])⟩) (by omega))⟩
    · have tc_4 : r_3.toInt = 0 := v_eq c_4
      refine lv_iconst (v := (-1)) hx hb dX12_undo_24 (by decide) ?_
      exact kl_i (v := (-1)) hQQ hx hb hr hlocks hS dX12_undo_25 ⟨0, (-1), zk, eW, eO, zn, eY, zd, zm, zl, eE, zp, zf, zs, eS, eX, ⟨hP, hD⟩, g_zk, g_eW, g_eO, g_zn, g_eY, g_zm, g_eE, g_zp, g_zf, g_zs, g_eS, g_eX, by show zs.toInt ≤ zs.toInt + 1 ∧ zs.toInt ≤ zs.toInt; omega, by first | exact Or.inl (by omega) | exact Or.inr ⟨rfl, rfl, rfl⟩, OR_n rfl (fun c fm v h => by have h1 := h.1; have h2 := h.2.1; unfold okd at h1 h2; omega)⟩

end

/-! 59m.cost -/
section
set_option maxHeartbeats 40000000 in
set_option maxRecDepth 100000 in
theorem f_X3_sortOutside (l : Launch) (dC : Nat → ClassId) (dI : Nat → Nat → Nat) (cI cS : ClassId) (sz : Nat) (x : Int32) (hxo : x.toInt < 33 ∨ 126 < x.toInt) : kMi l yX3_sortOutside wsX3_sortOutside ({ frames := 0, cells := 0, slots := 0, locals := 0 } : Room) [.int x] sz (dC, dI) vwCl [(cI, .int), (cS, .short)] [] (fun _ => True) 0 0 (fun (A : Nat → Prop) (r : Int32) (hh9 : Heap) => kPD (dC, dI) vwCl A [] hh9 ∧ (0 ≤ r.toInt ∧ r.toInt ≤ 7) ∧ (r.toInt = srt x)) := by
  refine kMi_of (cc := cX3_sortOutside) (maxL := 1) (ret := (some .int)) (lv := [(0, .int x)]) (by decide +kernel) rfl rfl (Nat.le_of_ble_eq_true rfl) ?_
  intro p e s m below meth c A QQ ls hx hb hr hts hml hown hlocks hA hQQ hK hX hP hD hS hl
  have hown : s.vm.findClass RX3 = some m.cls := hown
  have hcf := k_cf hx hb hml hown hts
  refine lv_iload_n hx hb dX3_sortOutside_0 rfl (lv_at hl 0 rfl) ?_
  refine lv_bipush (v := 32) hx hb dX3_sortOutside_1 (by decide) ?_
  refine lv_icmp_ne (tgt := 8) hx hb dX3_sortOutside_3 (by decide) (fun c_1 => ?_) (fun c_1 => ?_)
  · have tc_1 : ¬ x.toInt = 32 := v_ne c_1
    refine lv_iload_n hx hb dX3_sortOutside_8 rfl (lv_at hl 0 rfl) ?_
    refine lv_sipush (v := 192) hx hb dX3_sortOutside_9 (by decide) ?_
    refine lv_icmp_lt (tgt := 43) hx hb dX3_sortOutside_12 (by decide) (fun c_2 => ?_) (fun c_2 => ?_)
    · have tc_2 : x.toInt < 192 := v_lt c_2
      refine lv_iload_n hx hb dX3_sortOutside_43 rfl (lv_at hl 0 rfl) ?_
      refine lv_sipush (v := 880) hx hb dX3_sortOutside_44 (by decide) ?_
      refine lv_icmp_lt (tgt := 62) hx hb dX3_sortOutside_47 (by decide) (fun c_3 => ?_) (fun c_3 => by exfalso; have tc_3 : 880 ≤ x.toInt := v_nlt c_3; omega)
      have tc_3 : x.toInt < 880 := v_lt c_3
      refine lv_iconst (v := 0) hx hb dX3_sortOutside_62 (by decide) ?_
      exact kl_i (v := 0) hQQ hx hb hr hlocks hS dX3_sortOutside_63 ⟨⟨hP, hD⟩, by decide, by unfold srt; (repeat (first | rw [if_pos (by omega)] | rw [if_neg (by omega)])) <;> rfl⟩
    · have tc_2 : 192 ≤ x.toInt := v_nlt c_2
      refine lv_iload_n hx hb dX3_sortOutside_15 rfl (lv_at hl 0 rfl) ?_
      refine lv_sipush (v := 591) hx hb dX3_sortOutside_16 (by decide) ?_
      refine lv_icmp_gt (tgt := 43) hx hb dX3_sortOutside_19 (by decide) (fun c_4 => ?_) (fun c_4 => ?_)
      · have tc_4 : 591 < x.toInt := v_lt c_4
        refine lv_iload_n hx hb dX3_sortOutside_43 rfl (lv_at hl 0 rfl) ?_
        refine lv_sipush (v := 880) hx hb dX3_sortOutside_44 (by decide) ?_
        refine lv_icmp_lt (tgt := 62) hx hb dX3_sortOutside_47 (by decide) (fun c_5 => ?_) (fun c_5 => ?_)
        · have tc_5 : x.toInt < 880 := v_lt c_5
          refine lv_iconst (v := 0) hx hb dX3_sortOutside_62 (by decide) ?_
          exact kl_i (v := 0) hQQ hx hb hr hlocks hS dX3_sortOutside_63 ⟨⟨hP, hD⟩, by decide, by unfold srt; (repeat (first | rw [if_pos (by omega)] | rw [if_neg (by omega)])) <;> rfl⟩
        · have tc_5 : 880 ≤ x.toInt := v_nlt c_5
          refine lv_iload_n hx hb dX3_sortOutside_50 rfl (lv_at hl 0 rfl) ?_
          refine lv_sipush (v := 1327) hx hb dX3_sortOutside_51 (by decide) ?_
          refine lv_icmp_gt (tgt := 62) hx hb dX3_sortOutside_54 (by decide) (fun c_6 => ?_) (fun c_6 => ?_)
          · have tc_6 : 1327 < x.toInt := v_lt c_6
            refine lv_iconst (v := 0) hx hb dX3_sortOutside_62 (by decide) ?_
            exact kl_i (v := 0) hQQ hx hb hr hlocks hS dX3_sortOutside_63 ⟨⟨hP, hD⟩, by decide, by unfold srt; (repeat (first | rw [if_pos (by omega)] | rw [if_neg (by omega)])) <;> rfl⟩
          · have tc_6 : x.toInt ≤ 1327 := v_nlt c_6
            refine lv_bipush (v := 7) hx hb dX3_sortOutside_57 (by decide) ?_
            refine lv_goto (tgt := 63) hx hb dX3_sortOutside_59 (by decide) ?_
            exact kl_i (v := 7) hQQ hx hb hr hlocks hS dX3_sortOutside_63 ⟨⟨hP, hD⟩, by decide, by unfold srt; (repeat (first | rw [if_pos (by omega)] | rw [if_neg (by omega)])) <;> rfl⟩
      · have tc_4 : x.toInt ≤ 591 := v_nlt c_4
        refine lv_iload_n hx hb dX3_sortOutside_22 rfl (lv_at hl 0 rfl) ?_
        refine lv_sipush (v := 215) hx hb dX3_sortOutside_23 (by decide) ?_
        refine lv_icmp_eq (tgt := 36) hx hb dX3_sortOutside_26 (by decide) (fun c_7 => ?_) (fun c_7 => ?_)
        · have tc_7 : x.toInt = 215 := v_eq c_7
          refine lv_iconst (v := 0) hx hb dX3_sortOutside_36 (by decide) ?_
          refine lv_goto (tgt := 42) hx hb dX3_sortOutside_37 (by decide) ?_
          exact kl_i (v := 0) hQQ hx hb hr hlocks hS dX3_sortOutside_42 ⟨⟨hP, hD⟩, by decide, by unfold srt; (repeat (first | rw [if_pos (by omega)] | rw [if_neg (by omega)])) <;> rfl⟩
        · have tc_7 : ¬ x.toInt = 215 := v_ne c_7
          refine lv_iload_n hx hb dX3_sortOutside_29 rfl (lv_at hl 0 rfl) ?_
          refine lv_sipush (v := 247) hx hb dX3_sortOutside_30 (by decide) ?_
          refine lv_icmp_ne (tgt := 40) hx hb dX3_sortOutside_33 (by decide) (fun c_8 => ?_) (fun c_8 => ?_)
          · have tc_8 : ¬ x.toInt = 247 := v_ne c_8
            refine lv_bipush (v := 6) hx hb dX3_sortOutside_40 (by decide) ?_
            exact kl_i (v := 6) hQQ hx hb hr hlocks hS dX3_sortOutside_42 ⟨⟨hP, hD⟩, by decide, by unfold srt; (repeat (first | rw [if_pos (by omega)] | rw [if_neg (by omega)])) <;> rfl⟩
          · have tc_8 : x.toInt = 247 := v_eq c_8
            refine lv_iconst (v := 0) hx hb dX3_sortOutside_36 (by decide) ?_
            refine lv_goto (tgt := 42) hx hb dX3_sortOutside_37 (by decide) ?_
            exact kl_i (v := 0) hQQ hx hb hr hlocks hS dX3_sortOutside_42 ⟨⟨hP, hD⟩, by decide, by unfold srt; (repeat (first | rw [if_pos (by omega)] | rw [if_neg (by omega)])) <;> rfl⟩
  · have tc_1 : x.toInt = 32 := v_eq c_1
    refine lv_iconst (v := 4) hx hb dX3_sortOutside_6 (by decide) ?_
    exact kl_i (v := 4) hQQ hx hb hr hlocks hS dX3_sortOutside_7 ⟨⟨hP, hD⟩, by decide, by unfold srt; (repeat (first | rw [if_pos (by omega)] | rw [if_neg (by omega)])) <;> rfl⟩

set_option maxHeartbeats 40000000 in
set_option maxRecDepth 100000 in
theorem f_X3_sortOf (l : Launch) (dC : Nat → ClassId) (dI : Nat → Nat → Nat) (cI cS : ClassId) (sz : Nat) (x : Int32)  : kMi l yX3_sortOf wsX3_sortOf ({ frames := 1, cells := 0, slots := 0, locals := 20 } : Room) [.int x] sz (dC, dI) vwCl [(cI, .int), (cS, .short)] [] (fun _ => True) 0 0 (fun (A : Nat → Prop) (r : Int32) (hh9 : Heap) => kPD (dC, dI) vwCl A [] hh9 ∧ (0 ≤ r.toInt ∧ r.toInt ≤ 7) ∧ (r.toInt = srt x)) := by
  refine kMi_of (cc := cX3_sortOf) (maxL := 1) (ret := (some .int)) (lv := [(0, .int x)]) (by decide +kernel) rfl rfl (Nat.le_of_ble_eq_true rfl) ?_
  intro p e s m below meth c A QQ ls hx hb hr hts hml hown hlocks hA hQQ hK hX hP hD hS hl
  have hown : s.vm.findClass RX3 = some m.cls := hown
  have hcf := k_cf hx hb hml hown hts
  refine lv_iload_n hx hb dX3_sortOf_0 rfl (lv_at hl 0 rfl) ?_
  refine lv_bipush (v := 33) hx hb dX3_sortOf_1 (by decide) ?_
  refine lv_icmp_lt (tgt := 12) hx hb dX3_sortOf_3 (by decide) (fun c_1 => ?_) (fun c_1 => ?_)
  · have tc_1 : x.toInt < 33 := v_lt c_1
    refine lv_iload_n hx hb dX3_sortOf_12 rfl (lv_at hl 0 rfl) ?_
    refine kS_i (rest := []) hcf (f_X3_sortOutside l dC dI cI cS s.heap.size x (by omega)) kc_X3_sortOutside gX3_sortOf_X3_sortOutside rfl rfl ⟨Nat.le_of_ble_eq_true rfl, Nat.le_of_ble_eq_true rfl⟩ kX_t hK hP hD hS hA [] [] rfl (by decide +kernel) rfl hl rfl (Nat.le_of_ble_eq_true rfl) dX3_sortOf_13 ⟨Nat.le_of_ble_eq_true rfl, Nat.le_of_ble_eq_true rfl⟩ (fun r_2 H locs hB hJ hSn => ?_)
    obtain ⟨⟨hP1, hD1⟩, hf2_0, hf2_1⟩ := hB
    obtain ⟨hPn, hDn⟩ := hJ _ hP1 hD1 [] rfl
    clear hP hD hS hJ hP1 hD1
    have hP := hPn
    have hD := hDn
    have hS := hSn
    clear hPn hDn hSn
    exact kl_i (v := r_2) hQQ hx hb hr hlocks hS dX3_sortOf_16 ⟨⟨hP, hD⟩, hf2_0, hf2_1⟩
  · have tc_1 : 33 ≤ x.toInt := v_nlt c_1
    refine lv_iload_n hx hb dX3_sortOf_6 rfl (lv_at hl 0 rfl) ?_
    refine lv_bipush (v := 126) hx hb dX3_sortOf_7 (by decide) ?_
    refine lv_icmp_le (tgt := 17) hx hb dX3_sortOf_9 (by decide) (fun c_3 => ?_) (fun c_3 => ?_)
    · have tc_3 : x.toInt ≤ 126 := v_le c_3
      refine lv_iload_n hx hb dX3_sortOf_17 rfl (lv_at hl 0 rfl) ?_
      refine lv_bipush (v := 97) hx hb dX3_sortOf_18 (by decide) ?_
      refine lv_icmp_lt (tgt := 31) hx hb dX3_sortOf_20 (by decide) (fun c_4 => ?_) (fun c_4 => ?_)
      · have tc_4 : x.toInt < 97 := v_lt c_4
        refine lv_iload_n hx hb dX3_sortOf_31 rfl (lv_at hl 0 rfl) ?_
        refine lv_bipush (v := 65) hx hb dX3_sortOf_32 (by decide) ?_
        refine lv_icmp_lt (tgt := 45) hx hb dX3_sortOf_34 (by decide) (fun c_5 => ?_) (fun c_5 => ?_)
        · have tc_5 : x.toInt < 65 := v_lt c_5
          refine lv_iload_n hx hb dX3_sortOf_45 rfl (lv_at hl 0 rfl) ?_
          refine lv_bipush (v := 48) hx hb dX3_sortOf_46 (by decide) ?_
          refine lv_icmp_lt (tgt := 61) hx hb dX3_sortOf_48 (by decide) (fun c_6 => ?_) (fun c_6 => ?_)
          · have tc_6 : x.toInt < 48 := v_lt c_6
            refine lv_iconst (v := 5) hx hb dX3_sortOf_61 (by decide) ?_
            exact kl_i (v := 5) hQQ hx hb hr hlocks hS dX3_sortOf_62 ⟨⟨hP, hD⟩, by decide, by unfold srt; (repeat (first | rw [if_pos (by omega)] | rw [if_neg (by omega)])) <;> rfl⟩
          · have tc_6 : 48 ≤ x.toInt := v_nlt c_6
            refine lv_iload_n hx hb dX3_sortOf_51 rfl (lv_at hl 0 rfl) ?_
            refine lv_bipush (v := 57) hx hb dX3_sortOf_52 (by decide) ?_
            refine lv_icmp_gt (tgt := 61) hx hb dX3_sortOf_54 (by decide) (fun c_7 => ?_) (fun c_7 => ?_)
            · have tc_7 : 57 < x.toInt := v_lt c_7
              refine lv_iconst (v := 5) hx hb dX3_sortOf_61 (by decide) ?_
              exact kl_i (v := 5) hQQ hx hb hr hlocks hS dX3_sortOf_62 ⟨⟨hP, hD⟩, by decide, by unfold srt; (repeat (first | rw [if_pos (by omega)] | rw [if_neg (by omega)])) <;> rfl⟩
            · have tc_7 : x.toInt ≤ 57 := v_nlt c_7
              refine lv_iconst (v := 3) hx hb dX3_sortOf_57 (by decide) ?_
              refine lv_goto (tgt := 62) hx hb dX3_sortOf_58 (by decide) ?_
              exact kl_i (v := 3) hQQ hx hb hr hlocks hS dX3_sortOf_62 ⟨⟨hP, hD⟩, by decide, by unfold srt; (repeat (first | rw [if_pos (by omega)] | rw [if_neg (by omega)])) <;> rfl⟩
        · have tc_5 : 65 ≤ x.toInt := v_nlt c_5
          refine lv_iload_n hx hb dX3_sortOf_37 rfl (lv_at hl 0 rfl) ?_
          refine lv_bipush (v := 90) hx hb dX3_sortOf_38 (by decide) ?_
          refine lv_icmp_gt (tgt := 45) hx hb dX3_sortOf_40 (by decide) (fun c_8 => ?_) (fun c_8 => ?_)
          · have tc_8 : 90 < x.toInt := v_lt c_8
            refine lv_iload_n hx hb dX3_sortOf_45 rfl (lv_at hl 0 rfl) ?_
            refine lv_bipush (v := 48) hx hb dX3_sortOf_46 (by decide) ?_
            refine lv_icmp_lt (tgt := 61) hx hb dX3_sortOf_48 (by decide) (fun c_9 => by exfalso; have tc_9 : x.toInt < 48 := v_lt c_9; omega) (fun c_9 => ?_)
            have tc_9 : 48 ≤ x.toInt := v_nlt c_9
            refine lv_iload_n hx hb dX3_sortOf_51 rfl (lv_at hl 0 rfl) ?_
            refine lv_bipush (v := 57) hx hb dX3_sortOf_52 (by decide) ?_
            refine lv_icmp_gt (tgt := 61) hx hb dX3_sortOf_54 (by decide) (fun c_10 => ?_) (fun c_10 => by exfalso; have tc_10 : x.toInt ≤ 57 := v_nlt c_10; omega)
            have tc_10 : 57 < x.toInt := v_lt c_10
            refine lv_iconst (v := 5) hx hb dX3_sortOf_61 (by decide) ?_
            exact kl_i (v := 5) hQQ hx hb hr hlocks hS dX3_sortOf_62 ⟨⟨hP, hD⟩, by decide, by unfold srt; (repeat (first | rw [if_pos (by omega)] | rw [if_neg (by omega)])) <;> rfl⟩
          · have tc_8 : x.toInt ≤ 90 := v_nlt c_8
            refine lv_iconst (v := 2) hx hb dX3_sortOf_43 (by decide) ?_
            exact kl_i (v := 2) hQQ hx hb hr hlocks hS dX3_sortOf_44 ⟨⟨hP, hD⟩, by decide, by unfold srt; (repeat (first | rw [if_pos (by omega)] | rw [if_neg (by omega)])) <;> rfl⟩
      · have tc_4 : 97 ≤ x.toInt := v_nlt c_4
        refine lv_iload_n hx hb dX3_sortOf_23 rfl (lv_at hl 0 rfl) ?_
        refine lv_bipush (v := 122) hx hb dX3_sortOf_24 (by decide) ?_
        refine lv_icmp_gt (tgt := 31) hx hb dX3_sortOf_26 (by decide) (fun c_11 => ?_) (fun c_11 => ?_)
        · have tc_11 : 122 < x.toInt := v_lt c_11
          refine lv_iload_n hx hb dX3_sortOf_31 rfl (lv_at hl 0 rfl) ?_
          refine lv_bipush (v := 65) hx hb dX3_sortOf_32 (by decide) ?_
          refine lv_icmp_lt (tgt := 45) hx hb dX3_sortOf_34 (by decide) (fun c_12 => by exfalso; have tc_12 : x.toInt < 65 := v_lt c_12; omega) (fun c_12 => ?_)
          have tc_12 : 65 ≤ x.toInt := v_nlt c_12
          refine lv_iload_n hx hb dX3_sortOf_37 rfl (lv_at hl 0 rfl) ?_
          refine lv_bipush (v := 90) hx hb dX3_sortOf_38 (by decide) ?_
          refine lv_icmp_gt (tgt := 45) hx hb dX3_sortOf_40 (by decide) (fun c_13 => ?_) (fun c_13 => by exfalso; have tc_13 : x.toInt ≤ 90 := v_nlt c_13; omega)
          have tc_13 : 90 < x.toInt := v_lt c_13
          refine lv_iload_n hx hb dX3_sortOf_45 rfl (lv_at hl 0 rfl) ?_
          refine lv_bipush (v := 48) hx hb dX3_sortOf_46 (by decide) ?_
          refine lv_icmp_lt (tgt := 61) hx hb dX3_sortOf_48 (by decide) (fun c_14 => by exfalso; have tc_14 : x.toInt < 48 := v_lt c_14; omega) (fun c_14 => ?_)
          have tc_14 : 48 ≤ x.toInt := v_nlt c_14
          refine lv_iload_n hx hb dX3_sortOf_51 rfl (lv_at hl 0 rfl) ?_
          refine lv_bipush (v := 57) hx hb dX3_sortOf_52 (by decide) ?_
          refine lv_icmp_gt (tgt := 61) hx hb dX3_sortOf_54 (by decide) (fun c_15 => ?_) (fun c_15 => by exfalso; have tc_15 : x.toInt ≤ 57 := v_nlt c_15; omega)
          have tc_15 : 57 < x.toInt := v_lt c_15
          refine lv_iconst (v := 5) hx hb dX3_sortOf_61 (by decide) ?_
          exact kl_i (v := 5) hQQ hx hb hr hlocks hS dX3_sortOf_62 ⟨⟨hP, hD⟩, by decide, by unfold srt; (repeat (first | rw [if_pos (by omega)] | rw [if_neg (by omega)])) <;> rfl⟩
        · have tc_11 : x.toInt ≤ 122 := v_nlt c_11
          refine lv_iconst (v := 1) hx hb dX3_sortOf_29 (by decide) ?_
          exact kl_i (v := 1) hQQ hx hb hr hlocks hS dX3_sortOf_30 ⟨⟨hP, hD⟩, by decide, by unfold srt; (repeat (first | rw [if_pos (by omega)] | rw [if_neg (by omega)])) <;> rfl⟩
    · have tc_3 : 126 < x.toInt := v_nle c_3
      refine lv_iload_n hx hb dX3_sortOf_12 rfl (lv_at hl 0 rfl) ?_
      refine kS_i (rest := []) hcf (f_X3_sortOutside l dC dI cI cS s.heap.size x (by omega)) kc_X3_sortOutside gX3_sortOf_X3_sortOutside rfl rfl ⟨Nat.le_of_ble_eq_true rfl, Nat.le_of_ble_eq_true rfl⟩ kX_t hK hP hD hS hA [] [] rfl (by decide +kernel) rfl hl rfl (Nat.le_of_ble_eq_true rfl) dX3_sortOf_13 ⟨Nat.le_of_ble_eq_true rfl, Nat.le_of_ble_eq_true rfl⟩ (fun r_16 H locs hB hJ hSn => ?_)
      obtain ⟨⟨hP1, hD1⟩, hf16_0, hf16_1⟩ := hB
      obtain ⟨hPn, hDn⟩ := hJ _ hP1 hD1 [] rfl
      clear hP hD hS hJ hP1 hD1
      have hP := hPn
      have hD := hDn
      have hS := hSn
      clear hPn hDn hSn
      exact kl_i (v := r_16) hQQ hx hb hr hlocks hS dX3_sortOf_16 ⟨⟨hP, hD⟩, hf16_0, hf16_1⟩

set_option maxHeartbeats 40000000 in
set_option maxRecDepth 100000 in
theorem f_X12_sortOf (l : Launch) (dC : Nat → ClassId) (dI : Nat → Nat → Nat) (cI cS : ClassId) (sz : Nat) (x : Int32)  : kMi l yX12_sortOf wsX12_sortOf ({ frames := 0, cells := 0, slots := 0, locals := 0 } : Room) [.int x] sz (dC, dI) vwCl [(cI, .int), (cS, .short)] [] (fun _ => True) 0 0 (fun (A : Nat → Prop) (r : Int32) (hh9 : Heap) => kPD (dC, dI) vwCl A [] hh9 ∧ (0 ≤ r.toInt ∧ r.toInt ≤ 7) ∧ (r.toInt = srt x)) := by
  refine kMi_of (cc := cX12_sortOf) (maxL := 1) (ret := (some .int)) (lv := [(0, .int x)]) (by decide +kernel) rfl rfl (Nat.le_of_ble_eq_true rfl) ?_
  intro p e s m below meth c A QQ ls hx hb hr hts hml hown hlocks hA hQQ hK hX hP hD hS hl
  have hown : s.vm.findClass RX12 = some m.cls := hown
  have hcf := k_cf hx hb hml hown hts
  refine lv_iload_n hx hb dX12_sortOf_0 rfl (lv_at hl 0 rfl) ?_
  refine lv_bipush (v := 97) hx hb dX12_sortOf_1 (by decide) ?_
  refine lv_icmp_lt (tgt := 14) hx hb dX12_sortOf_3 (by decide) (fun c_1 => ?_) (fun c_1 => ?_)
  · have tc_1 : x.toInt < 97 := v_lt c_1
    refine lv_iload_n hx hb dX12_sortOf_14 rfl (lv_at hl 0 rfl) ?_
    refine lv_bipush (v := 65) hx hb dX12_sortOf_15 (by decide) ?_
    refine lv_icmp_lt (tgt := 28) hx hb dX12_sortOf_17 (by decide) (fun c_2 => ?_) (fun c_2 => ?_)
    · have tc_2 : x.toInt < 65 := v_lt c_2
      refine lv_iload_n hx hb dX12_sortOf_28 rfl (lv_at hl 0 rfl) ?_
      refine lv_bipush (v := 48) hx hb dX12_sortOf_29 (by decide) ?_
      refine lv_icmp_lt (tgt := 42) hx hb dX12_sortOf_31 (by decide) (fun c_3 => ?_) (fun c_3 => ?_)
      · have tc_3 : x.toInt < 48 := v_lt c_3
        refine lv_iload_n hx hb dX12_sortOf_42 rfl (lv_at hl 0 rfl) ?_
        refine lv_bipush (v := 32) hx hb dX12_sortOf_43 (by decide) ?_
        refine lv_icmp_ne (tgt := 50) hx hb dX12_sortOf_45 (by decide) (fun c_4 => ?_) (fun c_4 => ?_)
        · have tc_4 : ¬ x.toInt = 32 := v_ne c_4
          refine lv_iload_n hx hb dX12_sortOf_50 rfl (lv_at hl 0 rfl) ?_
          refine lv_bipush (v := 33) hx hb dX12_sortOf_51 (by decide) ?_
          refine lv_icmp_lt (tgt := 64) hx hb dX12_sortOf_53 (by decide) (fun c_5 => ?_) (fun c_5 => ?_)
          · have tc_5 : x.toInt < 33 := v_lt c_5
            refine lv_iload_n hx hb dX12_sortOf_64 rfl (lv_at hl 0 rfl) ?_
            refine lv_sipush (v := 192) hx hb dX12_sortOf_65 (by decide) ?_
            refine lv_icmp_lt (tgt := 95) hx hb dX12_sortOf_68 (by decide) (fun c_6 => ?_) (fun c_6 => by exfalso; have tc_6 : 192 ≤ x.toInt := v_nlt c_6; omega)
            have tc_6 : x.toInt < 192 := v_lt c_6
            refine lv_iload_n hx hb dX12_sortOf_95 rfl (lv_at hl 0 rfl) ?_
            refine lv_sipush (v := 880) hx hb dX12_sortOf_96 (by decide) ?_
            refine lv_icmp_lt (tgt := 114) hx hb dX12_sortOf_99 (by decide) (fun c_7 => ?_) (fun c_7 => by exfalso; have tc_7 : 880 ≤ x.toInt := v_nlt c_7; omega)
            have tc_7 : x.toInt < 880 := v_lt c_7
            refine lv_iconst (v := 0) hx hb dX12_sortOf_114 (by decide) ?_
            exact kl_i (v := 0) hQQ hx hb hr hlocks hS dX12_sortOf_115 ⟨⟨hP, hD⟩, by decide, by unfold srt; (repeat (first | rw [if_pos (by omega)] | rw [if_neg (by omega)])) <;> rfl⟩
          · have tc_5 : 33 ≤ x.toInt := v_nlt c_5
            refine lv_iload_n hx hb dX12_sortOf_56 rfl (lv_at hl 0 rfl) ?_
            refine lv_bipush (v := 126) hx hb dX12_sortOf_57 (by decide) ?_
            refine lv_icmp_gt (tgt := 64) hx hb dX12_sortOf_59 (by decide) (fun c_8 => by exfalso; have tc_8 : 126 < x.toInt := v_lt c_8; omega) (fun c_8 => ?_)
            have tc_8 : x.toInt ≤ 126 := v_nlt c_8
            refine lv_iconst (v := 5) hx hb dX12_sortOf_62 (by decide) ?_
            exact kl_i (v := 5) hQQ hx hb hr hlocks hS dX12_sortOf_63 ⟨⟨hP, hD⟩, by decide, by unfold srt; (repeat (first | rw [if_pos (by omega)] | rw [if_neg (by omega)])) <;> rfl⟩
        · have tc_4 : x.toInt = 32 := v_eq c_4
          refine lv_iconst (v := 4) hx hb dX12_sortOf_48 (by decide) ?_
          exact kl_i (v := 4) hQQ hx hb hr hlocks hS dX12_sortOf_49 ⟨⟨hP, hD⟩, by decide, by unfold srt; (repeat (first | rw [if_pos (by omega)] | rw [if_neg (by omega)])) <;> rfl⟩
      · have tc_3 : 48 ≤ x.toInt := v_nlt c_3
        refine lv_iload_n hx hb dX12_sortOf_34 rfl (lv_at hl 0 rfl) ?_
        refine lv_bipush (v := 57) hx hb dX12_sortOf_35 (by decide) ?_
        refine lv_icmp_gt (tgt := 42) hx hb dX12_sortOf_37 (by decide) (fun c_9 => ?_) (fun c_9 => ?_)
        · have tc_9 : 57 < x.toInt := v_lt c_9
          refine lv_iload_n hx hb dX12_sortOf_42 rfl (lv_at hl 0 rfl) ?_
          refine lv_bipush (v := 32) hx hb dX12_sortOf_43 (by decide) ?_
          refine lv_icmp_ne (tgt := 50) hx hb dX12_sortOf_45 (by decide) (fun c_10 => ?_) (fun c_10 => by exfalso; have tc_10 : x.toInt = 32 := v_eq c_10; omega)
          have tc_10 : ¬ x.toInt = 32 := v_ne c_10
          refine lv_iload_n hx hb dX12_sortOf_50 rfl (lv_at hl 0 rfl) ?_
          refine lv_bipush (v := 33) hx hb dX12_sortOf_51 (by decide) ?_
          refine lv_icmp_lt (tgt := 64) hx hb dX12_sortOf_53 (by decide) (fun c_11 => by exfalso; have tc_11 : x.toInt < 33 := v_lt c_11; omega) (fun c_11 => ?_)
          have tc_11 : 33 ≤ x.toInt := v_nlt c_11
          refine lv_iload_n hx hb dX12_sortOf_56 rfl (lv_at hl 0 rfl) ?_
          refine lv_bipush (v := 126) hx hb dX12_sortOf_57 (by decide) ?_
          refine lv_icmp_gt (tgt := 64) hx hb dX12_sortOf_59 (by decide) (fun c_12 => by exfalso; have tc_12 : 126 < x.toInt := v_lt c_12; omega) (fun c_12 => ?_)
          have tc_12 : x.toInt ≤ 126 := v_nlt c_12
          refine lv_iconst (v := 5) hx hb dX12_sortOf_62 (by decide) ?_
          exact kl_i (v := 5) hQQ hx hb hr hlocks hS dX12_sortOf_63 ⟨⟨hP, hD⟩, by decide, by unfold srt; (repeat (first | rw [if_pos (by omega)] | rw [if_neg (by omega)])) <;> rfl⟩
        · have tc_9 : x.toInt ≤ 57 := v_nlt c_9
          refine lv_iconst (v := 3) hx hb dX12_sortOf_40 (by decide) ?_
          exact kl_i (v := 3) hQQ hx hb hr hlocks hS dX12_sortOf_41 ⟨⟨hP, hD⟩, by decide, by unfold srt; (repeat (first | rw [if_pos (by omega)] | rw [if_neg (by omega)])) <;> rfl⟩
    · have tc_2 : 65 ≤ x.toInt := v_nlt c_2
      refine lv_iload_n hx hb dX12_sortOf_20 rfl (lv_at hl 0 rfl) ?_
      refine lv_bipush (v := 90) hx hb dX12_sortOf_21 (by decide) ?_
      refine lv_icmp_gt (tgt := 28) hx hb dX12_sortOf_23 (by decide) (fun c_13 => ?_) (fun c_13 => ?_)
      · have tc_13 : 90 < x.toInt := v_lt c_13
        refine lv_iload_n hx hb dX12_sortOf_28 rfl (lv_at hl 0 rfl) ?_
        refine lv_bipush (v := 48) hx hb dX12_sortOf_29 (by decide) ?_
        refine lv_icmp_lt (tgt := 42) hx hb dX12_sortOf_31 (by decide) (fun c_14 => by exfalso; have tc_14 : x.toInt < 48 := v_lt c_14; omega) (fun c_14 => ?_)
        have tc_14 : 48 ≤ x.toInt := v_nlt c_14
        refine lv_iload_n hx hb dX12_sortOf_34 rfl (lv_at hl 0 rfl) ?_
        refine lv_bipush (v := 57) hx hb dX12_sortOf_35 (by decide) ?_
        refine lv_icmp_gt (tgt := 42) hx hb dX12_sortOf_37 (by decide) (fun c_15 => ?_) (fun c_15 => by exfalso; have tc_15 : x.toInt ≤ 57 := v_nlt c_15; omega)
        have tc_15 : 57 < x.toInt := v_lt c_15
        refine lv_iload_n hx hb dX12_sortOf_42 rfl (lv_at hl 0 rfl) ?_
        refine lv_bipush (v := 32) hx hb dX12_sortOf_43 (by decide) ?_
        refine lv_icmp_ne (tgt := 50) hx hb dX12_sortOf_45 (by decide) (fun c_16 => ?_) (fun c_16 => by exfalso; have tc_16 : x.toInt = 32 := v_eq c_16; omega)
        have tc_16 : ¬ x.toInt = 32 := v_ne c_16
        refine lv_iload_n hx hb dX12_sortOf_50 rfl (lv_at hl 0 rfl) ?_
        refine lv_bipush (v := 33) hx hb dX12_sortOf_51 (by decide) ?_
        refine lv_icmp_lt (tgt := 64) hx hb dX12_sortOf_53 (by decide) (fun c_17 => by exfalso; have tc_17 : x.toInt < 33 := v_lt c_17; omega) (fun c_17 => ?_)
        have tc_17 : 33 ≤ x.toInt := v_nlt c_17
        refine lv_iload_n hx hb dX12_sortOf_56 rfl (lv_at hl 0 rfl) ?_
        refine lv_bipush (v := 126) hx hb dX12_sortOf_57 (by decide) ?_
        refine lv_icmp_gt (tgt := 64) hx hb dX12_sortOf_59 (by decide) (fun c_18 => by exfalso; have tc_18 : 126 < x.toInt := v_lt c_18; omega) (fun c_18 => ?_)
        have tc_18 : x.toInt ≤ 126 := v_nlt c_18
        refine lv_iconst (v := 5) hx hb dX12_sortOf_62 (by decide) ?_
        exact kl_i (v := 5) hQQ hx hb hr hlocks hS dX12_sortOf_63 ⟨⟨hP, hD⟩, by decide, by unfold srt; (repeat (first | rw [if_pos (by omega)] | rw [if_neg (by omega)])) <;> rfl⟩
      · have tc_13 : x.toInt ≤ 90 := v_nlt c_13
        refine lv_iconst (v := 2) hx hb dX12_sortOf_26 (by decide) ?_
        exact kl_i (v := 2) hQQ hx hb hr hlocks hS dX12_sortOf_27 ⟨⟨hP, hD⟩, by decide, by unfold srt; (repeat (first | rw [if_pos (by omega)] | rw [if_neg (by omega)])) <;> rfl⟩
  · have tc_1 : 97 ≤ x.toInt := v_nlt c_1
    refine lv_iload_n hx hb dX12_sortOf_6 rfl (lv_at hl 0 rfl) ?_
    refine lv_bipush (v := 122) hx hb dX12_sortOf_7 (by decide) ?_
    refine lv_icmp_gt (tgt := 14) hx hb dX12_sortOf_9 (by decide) (fun c_19 => ?_) (fun c_19 => ?_)
    · have tc_19 : 122 < x.toInt := v_lt c_19
      refine lv_iload_n hx hb dX12_sortOf_14 rfl (lv_at hl 0 rfl) ?_
      refine lv_bipush (v := 65) hx hb dX12_sortOf_15 (by decide) ?_
      refine lv_icmp_lt (tgt := 28) hx hb dX12_sortOf_17 (by decide) (fun c_20 => by exfalso; have tc_20 : x.toInt < 65 := v_lt c_20; omega) (fun c_20 => ?_)
      have tc_20 : 65 ≤ x.toInt := v_nlt c_20
      refine lv_iload_n hx hb dX12_sortOf_20 rfl (lv_at hl 0 rfl) ?_
      refine lv_bipush (v := 90) hx hb dX12_sortOf_21 (by decide) ?_
      refine lv_icmp_gt (tgt := 28) hx hb dX12_sortOf_23 (by decide) (fun c_21 => ?_) (fun c_21 => by exfalso; have tc_21 : x.toInt ≤ 90 := v_nlt c_21; omega)
      have tc_21 : 90 < x.toInt := v_lt c_21
      refine lv_iload_n hx hb dX12_sortOf_28 rfl (lv_at hl 0 rfl) ?_
      refine lv_bipush (v := 48) hx hb dX12_sortOf_29 (by decide) ?_
      refine lv_icmp_lt (tgt := 42) hx hb dX12_sortOf_31 (by decide) (fun c_22 => by exfalso; have tc_22 : x.toInt < 48 := v_lt c_22; omega) (fun c_22 => ?_)
      have tc_22 : 48 ≤ x.toInt := v_nlt c_22
      refine lv_iload_n hx hb dX12_sortOf_34 rfl (lv_at hl 0 rfl) ?_
      refine lv_bipush (v := 57) hx hb dX12_sortOf_35 (by decide) ?_
      refine lv_icmp_gt (tgt := 42) hx hb dX12_sortOf_37 (by decide) (fun c_23 => ?_) (fun c_23 => by exfalso; have tc_23 : x.toInt ≤ 57 := v_nlt c_23; omega)
      have tc_23 : 57 < x.toInt := v_lt c_23
      refine lv_iload_n hx hb dX12_sortOf_42 rfl (lv_at hl 0 rfl) ?_
      refine lv_bipush (v := 32) hx hb dX12_sortOf_43 (by decide) ?_
      refine lv_icmp_ne (tgt := 50) hx hb dX12_sortOf_45 (by decide) (fun c_24 => ?_) (fun c_24 => by exfalso; have tc_24 : x.toInt = 32 := v_eq c_24; omega)
      have tc_24 : ¬ x.toInt = 32 := v_ne c_24
      refine lv_iload_n hx hb dX12_sortOf_50 rfl (lv_at hl 0 rfl) ?_
      refine lv_bipush (v := 33) hx hb dX12_sortOf_51 (by decide) ?_
      refine lv_icmp_lt (tgt := 64) hx hb dX12_sortOf_53 (by decide) (fun c_25 => by exfalso; have tc_25 : x.toInt < 33 := v_lt c_25; omega) (fun c_25 => ?_)
      have tc_25 : 33 ≤ x.toInt := v_nlt c_25
      refine lv_iload_n hx hb dX12_sortOf_56 rfl (lv_at hl 0 rfl) ?_
      refine lv_bipush (v := 126) hx hb dX12_sortOf_57 (by decide) ?_
      refine lv_icmp_gt (tgt := 64) hx hb dX12_sortOf_59 (by decide) (fun c_26 => ?_) (fun c_26 => ?_)
      · have tc_26 : 126 < x.toInt := v_lt c_26
        refine lv_iload_n hx hb dX12_sortOf_64 rfl (lv_at hl 0 rfl) ?_
        refine lv_sipush (v := 192) hx hb dX12_sortOf_65 (by decide) ?_
        refine lv_icmp_lt (tgt := 95) hx hb dX12_sortOf_68 (by decide) (fun c_27 => ?_) (fun c_27 => ?_)
        · have tc_27 : x.toInt < 192 := v_lt c_27
          refine lv_iload_n hx hb dX12_sortOf_95 rfl (lv_at hl 0 rfl) ?_
          refine lv_sipush (v := 880) hx hb dX12_sortOf_96 (by decide) ?_
          refine lv_icmp_lt (tgt := 114) hx hb dX12_sortOf_99 (by decide) (fun c_28 => ?_) (fun c_28 => by exfalso; have tc_28 : 880 ≤ x.toInt := v_nlt c_28; omega)
          have tc_28 : x.toInt < 880 := v_lt c_28
          refine lv_iconst (v := 0) hx hb dX12_sortOf_114 (by decide) ?_
          exact kl_i (v := 0) hQQ hx hb hr hlocks hS dX12_sortOf_115 ⟨⟨hP, hD⟩, by decide, by unfold srt; (repeat (first | rw [if_pos (by omega)] | rw [if_neg (by omega)])) <;> rfl⟩
        · have tc_27 : 192 ≤ x.toInt := v_nlt c_27
          refine lv_iload_n hx hb dX12_sortOf_71 rfl (lv_at hl 0 rfl) ?_
          refine lv_sipush (v := 591) hx hb dX12_sortOf_72 (by decide) ?_
          refine lv_icmp_gt (tgt := 95) hx hb dX12_sortOf_75 (by decide) (fun c_29 => ?_) (fun c_29 => ?_)
          · have tc_29 : 591 < x.toInt := v_lt c_29
            refine lv_iload_n hx hb dX12_sortOf_95 rfl (lv_at hl 0 rfl) ?_
            refine lv_sipush (v := 880) hx hb dX12_sortOf_96 (by decide) ?_
            refine lv_icmp_lt (tgt := 114) hx hb dX12_sortOf_99 (by decide) (fun c_30 => ?_) (fun c_30 => ?_)
            · have tc_30 : x.toInt < 880 := v_lt c_30
              refine lv_iconst (v := 0) hx hb dX12_sortOf_114 (by decide) ?_
              exact kl_i (v := 0) hQQ hx hb hr hlocks hS dX12_sortOf_115 ⟨⟨hP, hD⟩, by decide, by unfold srt; (repeat (first | rw [if_pos (by omega)] | rw [if_neg (by omega)])) <;> rfl⟩
            · have tc_30 : 880 ≤ x.toInt := v_nlt c_30
              refine lv_iload_n hx hb dX12_sortOf_102 rfl (lv_at hl 0 rfl) ?_
              refine lv_sipush (v := 1327) hx hb dX12_sortOf_103 (by decide) ?_
              refine lv_icmp_gt (tgt := 114) hx hb dX12_sortOf_106 (by decide) (fun c_31 => ?_) (fun c_31 => ?_)
              · have tc_31 : 1327 < x.toInt := v_lt c_31
                refine lv_iconst (v := 0) hx hb dX12_sortOf_114 (by decide) ?_
                exact kl_i (v := 0) hQQ hx hb hr hlocks hS dX12_sortOf_115 ⟨⟨hP, hD⟩, by decide, by unfold srt; (repeat (first | rw [if_pos (by omega)] | rw [if_neg (by omega)])) <;> rfl⟩
              · have tc_31 : x.toInt ≤ 1327 := v_nlt c_31
                refine lv_bipush (v := 7) hx hb dX12_sortOf_109 (by decide) ?_
                refine lv_goto (tgt := 115) hx hb dX12_sortOf_111 (by decide) ?_
                exact kl_i (v := 7) hQQ hx hb hr hlocks hS dX12_sortOf_115 ⟨⟨hP, hD⟩, by decide, by unfold srt; (repeat (first | rw [if_pos (by omega)] | rw [if_neg (by omega)])) <;> rfl⟩
          · have tc_29 : x.toInt ≤ 591 := v_nlt c_29
            refine lv_iload_n hx hb dX12_sortOf_78 rfl (lv_at hl 0 rfl) ?_
            refine lv_sipush (v := 215) hx hb dX12_sortOf_79 (by decide) ?_
            refine lv_icmp_eq (tgt := 95) hx hb dX12_sortOf_82 (by decide) (fun c_32 => ?_) (fun c_32 => ?_)
            · have tc_32 : x.toInt = 215 := v_eq c_32
              refine lv_iload_n hx hb dX12_sortOf_95 rfl (lv_at hl 0 rfl) ?_
              refine lv_sipush (v := 880) hx hb dX12_sortOf_96 (by decide) ?_
              refine lv_icmp_lt (tgt := 114) hx hb dX12_sortOf_99 (by decide) (fun c_33 => ?_) (fun c_33 => by exfalso; have tc_33 : 880 ≤ x.toInt := v_nlt c_33; omega)
              have tc_33 : x.toInt < 880 := v_lt c_33
              refine lv_iconst (v := 0) hx hb dX12_sortOf_114 (by decide) ?_
              exact kl_i (v := 0) hQQ hx hb hr hlocks hS dX12_sortOf_115 ⟨⟨hP, hD⟩, by decide, by unfold srt; (repeat (first | rw [if_pos (by omega)] | rw [if_neg (by omega)])) <;> rfl⟩
            · have tc_32 : ¬ x.toInt = 215 := v_ne c_32
              refine lv_iload_n hx hb dX12_sortOf_85 rfl (lv_at hl 0 rfl) ?_
              refine lv_sipush (v := 247) hx hb dX12_sortOf_86 (by decide) ?_
              refine lv_icmp_eq (tgt := 95) hx hb dX12_sortOf_89 (by decide) (fun c_34 => ?_) (fun c_34 => ?_)
              · have tc_34 : x.toInt = 247 := v_eq c_34
                refine lv_iload_n hx hb dX12_sortOf_95 rfl (lv_at hl 0 rfl) ?_
                refine lv_sipush (v := 880) hx hb dX12_sortOf_96 (by decide) ?_
                refine lv_icmp_lt (tgt := 114) hx hb dX12_sortOf_99 (by decide) (fun c_35 => ?_) (fun c_35 => by exfalso; have tc_35 : 880 ≤ x.toInt := v_nlt c_35; omega)
                have tc_35 : x.toInt < 880 := v_lt c_35
                refine lv_iconst (v := 0) hx hb dX12_sortOf_114 (by decide) ?_
                exact kl_i (v := 0) hQQ hx hb hr hlocks hS dX12_sortOf_115 ⟨⟨hP, hD⟩, by decide, by unfold srt; (repeat (first | rw [if_pos (by omega)] | rw [if_neg (by omega)])) <;> rfl⟩
              · have tc_34 : ¬ x.toInt = 247 := v_ne c_34
                refine lv_bipush (v := 6) hx hb dX12_sortOf_92 (by decide) ?_
                exact kl_i (v := 6) hQQ hx hb hr hlocks hS dX12_sortOf_94 ⟨⟨hP, hD⟩, by decide, by unfold srt; (repeat (first | rw [if_pos (by omega)] | rw [if_neg (by omega)])) <;> rfl⟩
      · have tc_26 : x.toInt ≤ 126 := v_nlt c_26
        refine lv_iconst (v := 5) hx hb dX12_sortOf_62 (by decide) ?_
        exact kl_i (v := 5) hQQ hx hb hr hlocks hS dX12_sortOf_63 ⟨⟨hP, hD⟩, by decide, by unfold srt; (repeat (first | rw [if_pos (by omega)] | rw [if_neg (by omega)])) <;> rfl⟩
    · have tc_19 : x.toInt ≤ 122 := v_nlt c_19
      refine lv_iconst (v := 1) hx hb dX12_sortOf_12 (by decide) ?_
      exact kl_i (v := 1) hQQ hx hb hr hlocks hS dX12_sortOf_13 ⟨⟨hP, hD⟩, by decide, by unfold srt; (repeat (first | rw [if_pos (by omega)] | rw [if_neg (by omega)])) <;> rfl⟩

set_option maxHeartbeats 40000000 in
set_option maxRecDepth 100000 in
theorem f_X3_of (l : Launch) (dC : Nat → ClassId) (dI : Nat → Nat → Nat) (cI cS : ClassId) (sz : Nat) (oK : Nat) (k1 : Nat) (k2 : Nat) (lK : Int32) (fK1 : Nat → Int32) (fK2 : Nat → Int32) (x : Int32) (y : Int32) (g_lK : 0 ≤ lK.toInt ∧ lK.toInt ≤ 300) (g_x : 0 ≤ x.toInt ∧ x.toInt ≤ 65535) (g_y : 0 ≤ y.toInt ∧ y.toInt ≤ 65535) (hT : HT 1024 1023 hsK fK1 fK2) (ho : (occ fK2 1024 : Int) ≤ lK.toInt) (hV : prg 1024 (-1) 200 fK2) : kMi l yX3_of wsX3_of ({ frames := 2, cells := 0, slots := 0, locals := 47 } : Room) [.ref oK, .int x, .int y] sz (dC, dI) vwCl [(cI, .int), (cS, .short)] [(oK, .inr (3, [.ref k1, .ref k2, .int lK])), (k1, .inl (cI, 1024, .inl fK1)), (k2, .inl (cI, 1024, .inl fK2))] (fun _ => True) 0 0 (fun (A : Nat → Prop) (r : Int32) (hh9 : Heap) => kPD (dC, dI) vwCl A [(oK, .inr (3, [.ref k1, .ref k2, .int lK])), (k1, .inl (cI, 1024, .inl fK1)), (k2, .inl (cI, 1024, .inl fK2))] hh9 ∧ (0 ≤ r.toInt ∧ r.toInt ≤ 200) ∧ (r.toInt = cF (tcC fK1 fK2 x y) x y)) := by
  refine kMi_of (cc := cX3_of) (maxL := 7) (ret := (some .int)) (lv := [(0, .ref oK), (1, .int x), (2, .int y)]) (by decide +kernel) rfl rfl (Nat.le_of_ble_eq_true rfl) ?_
  intro p e s m below meth c A QQ ls hx hb hr hts hml hown hlocks hA hQQ hK hX hP hD hS hl
  have hown : s.vm.findClass RX3 = some m.cls := hown
  have hcf := k_cf hx hb hml hown hts
  have in_X3 : ∀ w ∈ wsX30, w ∈ wsX3_of := fun _ h => List.mem_cons_of_mem _ (List.mem_append_right _ (h))
  refine lv_aload_n hx hb dX3_of_0 rfl (lv_at hl 0 rfl) ?_
  refine va_get (D := (dC, dI)) (ci := 3) (v := .int lK) (C := RX3) (T := TX3) (N := 3) hx hb hts in_X3 hown hK hP 0 rfl rfl 2 (by decide) (hts (.fieldLink RX3 24 "TextMender$Costs" "length" "I") (List.mem_of_getElem? (i := 1) rfl)) (fun _ h9 => h9) rfl dX3_of_1 ?_
  refine lv_if_ne (tgt := 11) hx hb dX3_of_4 (by decide) (fun c_1 => ?_) (fun c_1 => ?_)
  · have tc_1 : ¬ lK.toInt = 0 := v_ne c_1
    refine lv_aload_n hx hb dX3_of_11 rfl (lv_at hl 0 rfl) ?_
    refine lv_iload_n hx hb dX3_of_12 rfl (lv_at hl 1 rfl) ?_
    refine lv_iload_n hx hb dX3_of_13 rfl (lv_at hl 2 rfl) ?_
    refine kV_i (rest := []) (q0 := 0) (ci := 3) hcf (f_X3_placeFor l dC dI cI cS s.heap.size oK k1 k2 lK fK1 fK2 x y (g_lK)) kc_X3_placeFor gX3_of_X3_placeFor rfl rfl rfl ⟨Nat.le_of_ble_eq_true rfl, Nat.le_of_ble_eq_true rfl⟩ kX_t hK hP hD hS hA [0, 1, 2] [] rfl (by decide +kernel) rfl rfl rfl hl rfl (Nat.le_of_ble_eq_true rfl) dX3_of_14 ⟨Nat.le_of_ble_eq_true rfl, Nat.le_of_ble_eq_true rfl⟩ (fun r_2 H locs hB hJ hSn => ?_)
    obtain ⟨⟨hP1, hD1⟩, hf2_0, hf2_1⟩ := hB
    obtain ⟨hPn, hDn⟩ := hJ _ hP1 hD1 [(oK, .inr (3, [.ref k1, .ref k2, .int lK])), (k1, .inl (cI, 1024, .inl fK1)), (k2, .inl (cI, 1024, .inl fK2))] rfl
    clear hP hD hS hJ hP1 hD1
    have hP := hPn
    have hD := hDn
    have hS := hSn
    clear hPn hDn hSn
    obtain ⟨hpz2, hpf2⟩ := pf_found hf2_1 ho (by omega)
    refine lv_istore_n (lv' := [(3, .int r_2), (0, .ref oK), (1, .int x), (2, .int y)]) hx hb dX3_of_17 rfl hl (by decide) rfl (fun ls hl => ?_)
    refine lv_iload_n hx hb dX3_of_18 rfl (lv_at hl 0 rfl) ?_
    refine lv_iconst (v := (-1)) hx hb dX3_of_19 (by decide) ?_
    refine lv_icmp_eq (tgt := 40) hx hb dX3_of_20 (by decide) (fun c_3 => by exfalso; have tc_3 : r_2.toInt = (-1) := v_eq c_3; omega) (fun c_3 => ?_)
    have tc_3 : ¬ r_2.toInt = (-1) := v_ne c_3
    refine lv_aload_n hx hb dX3_of_23 rfl (lv_at hl 1 rfl) ?_
    refine va_get (D := (dC, dI)) (ci := 3) (v := .ref k2) (C := RX3) (T := TX3) (N := 3) hx hb hts in_X3 hown hK hP 0 rfl rfl 1 (by decide) (hts (.fieldLink RX3 15 "TextMender$Costs" "value" "[I") (List.mem_of_getElem? (i := 2) rfl)) (fun _ h9 => h9) rfl dX3_of_24 ?_
    refine lv_iload_n hx hb dX3_of_27 rfl (lv_at hl 0 rfl) ?_
    refine va_iald hx hb hK hP 2 0 rfl rfl (v_in (by omega)) dX3_of_28 ?_
    refine lv_topi (fun x_4 ex_4 => ?_)
    refine lv_iconst (v := (-1)) hx hb dX3_of_29 (by decide) ?_
    refine lv_icmp_eq (tgt := 40) hx hb dX3_of_30 (by decide) (fun c_5 => ?_) (fun c_5 => ?_)
    · have tc_5 : x_4.toInt = (-1) := v_eq c_5
      refine lv_iload_n hx hb dX3_of_40 rfl (lv_at hl 2 rfl) ?_
      refine kS_i (rest := []) hcf (f_X3_sortOf l dC dI cI cS H.size x ) kc_X3_sortOf gX3_of_X3_sortOf rfl rfl ⟨Nat.le_of_ble_eq_true rfl, Nat.le_of_ble_eq_true rfl⟩ kX_t hK hP hD hS hA [] [0, 1, 2] rfl (by decide +kernel) rfl hl rfl (Nat.le_of_ble_eq_true rfl) dX3_of_41 ⟨Nat.le_of_ble_eq_true rfl, Nat.le_of_ble_eq_true rfl⟩ (fun r_6 H locs hB hJ hSn => ?_)
      obtain ⟨⟨hP1, hD1⟩, hf6_0, hf6_1⟩ := hB
      obtain ⟨hPn, hDn⟩ := hJ _ hP1 hD1 [(oK, .inr (3, [.ref k1, .ref k2, .int lK])), (k1, .inl (cI, 1024, .inl fK1)), (k2, .inl (cI, 1024, .inl fK2))] rfl
      clear hP hD hS hJ hP1 hD1
      have hP := hPn
      have hD := hDn
      have hS := hSn
      clear hPn hDn hSn
      refine lv_istore (lv' := [(4, .int r_6), (3, .int r_2), (0, .ref oK), (1, .int x), (2, .int y)]) hx hb dX3_of_44 hl (by decide) rfl (fun ls hl => ?_)
      refine lv_iload_n hx hb dX3_of_46 rfl (lv_at hl 4 rfl) ?_
      refine kS_i (rest := []) hcf (f_X3_sortOf l dC dI cI cS H.size y ) kc_X3_sortOf gX3_of_X3_sortOf rfl rfl ⟨Nat.le_of_ble_eq_true rfl, Nat.le_of_ble_eq_true rfl⟩ kX_t hK hP hD hS hA [] [0, 1, 2] rfl (by decide +kernel) rfl hl rfl (Nat.le_of_ble_eq_true rfl) dX3_of_47 ⟨Nat.le_of_ble_eq_true rfl, Nat.le_of_ble_eq_true rfl⟩ (fun r_7 H locs hB hJ hSn => ?_)
      obtain ⟨⟨hP1, hD1⟩, hf7_0, hf7_1⟩ := hB
      obtain ⟨hPn, hDn⟩ := hJ _ hP1 hD1 [(oK, .inr (3, [.ref k1, .ref k2, .int lK])), (k1, .inl (cI, 1024, .inl fK1)), (k2, .inl (cI, 1024, .inl fK2))] rfl
      clear hP hD hS hJ hP1 hD1
      have hP := hPn
      have hD := hDn
      have hS := hSn
      clear hPn hDn hSn
      refine lv_istore (lv' := [(5, .int r_7), (4, .int r_6), (3, .int r_2), (0, .ref oK), (1, .int x), (2, .int y)]) hx hb dX3_of_50 hl (by decide) rfl (fun ls hl => ?_)
      refine lv_iload hx hb dX3_of_52 (lv_at hl 1 rfl) ?_
      refine lv_iload hx hb dX3_of_54 (lv_at hl 0 rfl) ?_
      refine lv_icmp_ne (tgt := 63) hx hb dX3_of_56 (by decide) (fun c_8 => ?_) (fun c_8 => ?_)
      · have tc_8 : ¬ r_6.toInt = r_7.toInt := v_ne c_8
        refine lv_bipush (v := 9) hx hb dX3_of_63 (by decide) ?_
        refine lv_istore (lv' := [(6, .int 9), (5, .int r_7), (4, .int r_6), (3, .int r_2), (0, .ref oK), (1, .int x), (2, .int y)]) hx hb dX3_of_65 hl (by decide) rfl (fun ls hl => ?_)
        refine lv_iload hx hb dX3_of_67 (lv_at hl 0 rfl) ?_
        refine lv_iload hx hb dX3_of_69 (lv_at hl 2 rfl) ?_
        refine lv_if_ne (tgt := 79) hx hb dX3_of_71 (by decide) (fun c_9 => ?_) (fun c_9 => ?_)
        · have tc_9 : ¬ r_6.toInt = 0 := v_ne c_9
          refine lv_iconst (v := 0) hx hb dX3_of_79 (by decide) ?_
          refine lv_iadd hx hb dX3_of_80 ?_
          refine k_i (y := 9) (by decide) ?_
          refine lv_istore (lv' := [(6, .int 9), (5, .int r_7), (4, .int r_6), (3, .int r_2), (0, .ref oK), (1, .int x), (2, .int y)]) hx hb dX3_of_81 hl (by decide) rfl (fun ls hl => ?_)
          refine lv_iload hx hb dX3_of_83 (lv_at hl 0 rfl) ?_
          refine lv_iload hx hb dX3_of_85 (lv_at hl 1 rfl) ?_
          refine lv_if_ne (tgt := 95) hx hb dX3_of_87 (by decide) (fun c_10 => ?_) (fun c_10 => ?_)
          · have tc_10 : ¬ r_7.toInt = 0 := v_ne c_10
            refine lv_iconst (v := 0) hx hb dX3_of_95 (by decide) ?_
            refine lv_iadd hx hb dX3_of_96 ?_
            refine k_i (y := 9) (by decide) ?_
            exact kl_i (v := 9) hQQ hx hb hr hlocks hS dX3_of_97 ⟨⟨hP, hD⟩, by decide, by first | (exfalso; omega) | (rw [tc_free hT hpf2 (by rw [← ex_4]; exact c_5)]; unfold cF sC; rw [if_pos rfl, ← hf6_1, ← hf7_1]; (repeat (first | rw [if_pos (by omega)] | rw [if_neg (by omega)])) <;> rfl)⟩
          · have tc_10 : r_7.toInt = 0 := v_eq c_10
            refine lv_bipush (v := 30) hx hb dX3_of_90 (by decide) ?_
            refine lv_goto (tgt := 96) hx hb dX3_of_92 (by decide) ?_
            refine lv_iadd hx hb dX3_of_96 ?_
            refine k_i (y := 39) (by decide) ?_
            exact kl_i (v := 39) hQQ hx hb hr hlocks hS dX3_of_97 ⟨⟨hP, hD⟩, by decide, by first | (exfalso; omega) | (rw [tc_free hT hpf2 (by rw [← ex_4]; exact c_5)]; unfold cF sC; rw [if_pos rfl, ← hf6_1, ← hf7_1]; (repeat (first | rw [if_pos (by omega)] | rw [if_neg (by omega)])) <;> rfl)⟩
        · have tc_9 : r_6.toInt = 0 := v_eq c_9
          refine lv_bipush (v := 30) hx hb dX3_of_74 (by decide) ?_
          refine lv_goto (tgt := 80) hx hb dX3_of_76 (by decide) ?_
          refine lv_iadd hx hb dX3_of_80 ?_
          refine k_i (y := 39) (by decide) ?_
          refine lv_istore (lv' := [(6, .int 39), (5, .int r_7), (4, .int r_6), (3, .int r_2), (0, .ref oK), (1, .int x), (2, .int y)]) hx hb dX3_of_81 hl (by decide) rfl (fun ls hl => ?_)
          refine lv_iload hx hb dX3_of_83 (lv_at hl 0 rfl) ?_
          refine lv_iload hx hb dX3_of_85 (lv_at hl 1 rfl) ?_
          refine lv_if_ne (tgt := 95) hx hb dX3_of_87 (by decide) (fun c_11 => ?_) (fun c_11 => ?_)
          · have tc_11 : ¬ r_7.toInt = 0 := v_ne c_11
            refine lv_iconst (v := 0) hx hb dX3_of_95 (by decide) ?_
            refine lv_iadd hx hb dX3_of_96 ?_
            refine k_i (y := 39) (by decide) ?_
            exact kl_i (v := 39) hQQ hx hb hr hlocks hS dX3_of_97 ⟨⟨hP, hD⟩, by decide, by first | (exfalso; omega) | (rw [tc_free hT hpf2 (by rw [← ex_4]; exact c_5)]; unfold cF sC; rw [if_pos rfl, ← hf6_1, ← hf7_1]; (repeat (first | rw [if_pos (by omega)] | rw [if_neg (by omega)])) <;> rfl)⟩
          · have tc_11 : r_7.toInt = 0 := v_eq c_11
            refine lv_bipush (v := 30) hx hb dX3_of_90 (by decide) ?_
            refine lv_goto (tgt := 96) hx hb dX3_of_92 (by decide) ?_
            refine lv_iadd hx hb dX3_of_96 ?_
            refine k_i (y := 69) (by decide) ?_
            exact kl_i (v := 69) hQQ hx hb hr hlocks hS dX3_of_97 ⟨⟨hP, hD⟩, by decide, by first | (exfalso; omega) | (rw [tc_free hT hpf2 (by rw [← ex_4]; exact c_5)]; unfold cF sC; rw [if_pos rfl, ← hf6_1, ← hf7_1]; (repeat (first | rw [if_pos (by omega)] | rw [if_neg (by omega)])) <;> rfl)⟩
      · have tc_8 : r_6.toInt = r_7.toInt := v_eq c_8
        refine lv_iconst (v := 4) hx hb dX3_of_59 (by decide) ?_
        refine lv_goto (tgt := 65) hx hb dX3_of_60 (by decide) ?_
        refine lv_istore (lv' := [(6, .int 4), (5, .int r_7), (4, .int r_6), (3, .int r_2), (0, .ref oK), (1, .int x), (2, .int y)]) hx hb dX3_of_65 hl (by decide) rfl (fun ls hl => ?_)
        refine lv_iload hx hb dX3_of_67 (lv_at hl 0 rfl) ?_
        refine lv_iload hx hb dX3_of_69 (lv_at hl 2 rfl) ?_
        refine lv_if_ne (tgt := 79) hx hb dX3_of_71 (by decide) (fun c_12 => ?_) (fun c_12 => ?_)
        · have tc_12 : ¬ r_6.toInt = 0 := v_ne c_12
          refine lv_iconst (v := 0) hx hb dX3_of_79 (by decide) ?_
          refine lv_iadd hx hb dX3_of_80 ?_
          refine k_i (y := 4) (by decide) ?_
          refine lv_istore (lv' := [(6, .int 4), (5, .int r_7), (4, .int r_6), (3, .int r_2), (0, .ref oK), (1, .int x), (2, .int y)]) hx hb dX3_of_81 hl (by decide) rfl (fun ls hl => ?_)
          refine lv_iload hx hb dX3_of_83 (lv_at hl 0 rfl) ?_
          refine lv_iload hx hb dX3_of_85 (lv_at hl 1 rfl) ?_
          refine lv_if_ne (tgt := 95) hx hb dX3_of_87 (by decide) (fun c_13 => ?_) (fun c_13 => ?_)
          · have tc_13 : ¬ r_7.toInt = 0 := v_ne c_13
            refine lv_iconst (v := 0) hx hb dX3_of_95 (by decide) ?_
            refine lv_iadd hx hb dX3_of_96 ?_
            refine k_i (y := 4) (by decide) ?_
            exact kl_i (v := 4) hQQ hx hb hr hlocks hS dX3_of_97 ⟨⟨hP, hD⟩, by decide, by first | (exfalso; omega) | (rw [tc_free hT hpf2 (by rw [← ex_4]; exact c_5)]; unfold cF sC; rw [if_pos rfl, ← hf6_1, ← hf7_1]; (repeat (first | rw [if_pos (by omega)] | rw [if_neg (by omega)])) <;> rfl)⟩
          · have tc_13 : r_7.toInt = 0 := v_eq c_13
            refine lv_bipush (v := 30) hx hb dX3_of_90 (by decide) ?_
            refine lv_goto (tgt := 96) hx hb dX3_of_92 (by decide) ?_
            refine lv_iadd hx hb dX3_of_96 ?_
            refine k_i (y := 34) (by decide) ?_
            exact kl_i (v := 34) hQQ hx hb hr hlocks hS dX3_of_97 ⟨⟨hP, hD⟩, by decide, by first | (exfalso; omega) | (rw [tc_free hT hpf2 (by rw [← ex_4]; exact c_5)]; unfold cF sC; rw [if_pos rfl, ← hf6_1, ← hf7_1]; (repeat (first | rw [if_pos (by omega)] | rw [if_neg (by omega)])) <;> rfl)⟩
        · have tc_12 : r_6.toInt = 0 := v_eq c_12
          refine lv_bipush (v := 30) hx hb dX3_of_74 (by decide) ?_
          refine lv_goto (tgt := 80) hx hb dX3_of_76 (by decide) ?_
          refine lv_iadd hx hb dX3_of_80 ?_
          refine k_i (y := 34) (by decide) ?_
          refine lv_istore (lv' := [(6, .int 34), (5, .int r_7), (4, .int r_6), (3, .int r_2), (0, .ref oK), (1, .int x), (2, .int y)]) hx hb dX3_of_81 hl (by decide) rfl (fun ls hl => ?_)
          refine lv_iload hx hb dX3_of_83 (lv_at hl 0 rfl) ?_
          refine lv_iload hx hb dX3_of_85 (lv_at hl 1 rfl) ?_
          refine lv_if_ne (tgt := 95) hx hb dX3_of_87 (by decide) (fun c_14 => ?_) (fun c_14 => ?_)
          · have tc_14 : ¬ r_7.toInt = 0 := v_ne c_14
            refine lv_iconst (v := 0) hx hb dX3_of_95 (by decide) ?_
            refine lv_iadd hx hb dX3_of_96 ?_
            refine k_i (y := 34) (by decide) ?_
            exact kl_i (v := 34) hQQ hx hb hr hlocks hS dX3_of_97 ⟨⟨hP, hD⟩, by decide, by first | (exfalso; omega) | (rw [tc_free hT hpf2 (by rw [← ex_4]; exact c_5)]; unfold cF sC; rw [if_pos rfl, ← hf6_1, ← hf7_1]; (repeat (first | rw [if_pos (by omega)] | rw [if_neg (by omega)])) <;> rfl)⟩
          · have tc_14 : r_7.toInt = 0 := v_eq c_14
            refine lv_bipush (v := 30) hx hb dX3_of_90 (by decide) ?_
            refine lv_goto (tgt := 96) hx hb dX3_of_92 (by decide) ?_
            refine lv_iadd hx hb dX3_of_96 ?_
            refine k_i (y := 64) (by decide) ?_
            exact kl_i (v := 64) hQQ hx hb hr hlocks hS dX3_of_97 ⟨⟨hP, hD⟩, by decide, by first | (exfalso; omega) | (rw [tc_free hT hpf2 (by rw [← ex_4]; exact c_5)]; unfold cF sC; rw [if_pos rfl, ← hf6_1, ← hf7_1]; (repeat (first | rw [if_pos (by omega)] | rw [if_neg (by omega)])) <;> rfl)⟩
    · have tc_5 : ¬ x_4.toInt = (-1) := v_ne c_5
      have hvr : -1 ≤ x_4.toInt ∧ x_4.toInt ≤ 200 := prg_at hV ex_4 (by omega) (by omega)
      refine lv_aload_n hx hb dX3_of_33 rfl (lv_at hl 1 rfl) ?_
      refine va_get (D := (dC, dI)) (ci := 3) (v := .ref k2) (C := RX3) (T := TX3) (N := 3) hx hb hts in_X3 hown hK hP 0 rfl rfl 1 (by decide) (hts (.fieldLink RX3 15 "TextMender$Costs" "value" "[I") (List.mem_of_getElem? (i := 2) rfl)) (fun _ h9 => h9) rfl dX3_of_34 ?_
      refine lv_iload_n hx hb dX3_of_37 rfl (lv_at hl 0 rfl) ?_
      refine va_iald hx hb hK hP 2 0 rfl rfl (v_in (by omega)) dX3_of_38 ?_
      refine k_i (y := x_4) ex_4.symm ?_
      exact kl_i (v := x_4) hQQ hx hb hr hlocks hS dX3_of_39 ⟨⟨hP, hD⟩, by omega, by rw [tc_told hT hpf2 (by omega) (by omega) ex_4 c_5]; unfold cF; rw [if_neg c_5]⟩
  · have tc_1 : lK.toInt = 0 := v_eq c_1
    refine lv_iconst (v := (-1)) hx hb dX3_of_7 (by decide) ?_
    refine lv_goto (tgt := 17) hx hb dX3_of_8 (by decide) ?_
    refine lv_istore_n (lv' := [(3, .int (-1)), (0, .ref oK), (1, .int x), (2, .int y)]) hx hb dX3_of_17 rfl hl (by decide) rfl (fun ls hl => ?_)
    refine lv_iload_n hx hb dX3_of_18 rfl (lv_at hl 0 rfl) ?_
    refine lv_iconst (v := (-1)) hx hb dX3_of_19 (by decide) ?_
    refine lv_icmp_eq (tgt := 40) hx hb dX3_of_20 (by decide) (fun c_15 => ?_) (fun c_15 => absurd c_15 (by decide))
    refine lv_iload_n hx hb dX3_of_40 rfl (lv_at hl 2 rfl) ?_
    refine kS_i (rest := []) hcf (f_X3_sortOf l dC dI cI cS s.heap.size x ) kc_X3_sortOf gX3_of_X3_sortOf rfl rfl ⟨Nat.le_of_ble_eq_true rfl, Nat.le_of_ble_eq_true rfl⟩ kX_t hK hP hD hS hA [] [0, 1, 2] rfl (by decide +kernel) rfl hl rfl (Nat.le_of_ble_eq_true rfl) dX3_of_41 ⟨Nat.le_of_ble_eq_true rfl, Nat.le_of_ble_eq_true rfl⟩ (fun r_16 H locs hB hJ hSn => ?_)
    obtain ⟨⟨hP1, hD1⟩, hf16_0, hf16_1⟩ := hB
    obtain ⟨hPn, hDn⟩ := hJ _ hP1 hD1 [(oK, .inr (3, [.ref k1, .ref k2, .int lK])), (k1, .inl (cI, 1024, .inl fK1)), (k2, .inl (cI, 1024, .inl fK2))] rfl
    clear hP hD hS hJ hP1 hD1
    have hP := hPn
    have hD := hDn
    have hS := hSn
    clear hPn hDn hSn
    refine lv_istore (lv' := [(4, .int r_16), (3, .int (-1)), (0, .ref oK), (1, .int x), (2, .int y)]) hx hb dX3_of_44 hl (by decide) rfl (fun ls hl => ?_)
    refine lv_iload_n hx hb dX3_of_46 rfl (lv_at hl 4 rfl) ?_
    refine kS_i (rest := []) hcf (f_X3_sortOf l dC dI cI cS H.size y ) kc_X3_sortOf gX3_of_X3_sortOf rfl rfl ⟨Nat.le_of_ble_eq_true rfl, Nat.le_of_ble_eq_true rfl⟩ kX_t hK hP hD hS hA [] [0, 1, 2] rfl (by decide +kernel) rfl hl rfl (Nat.le_of_ble_eq_true rfl) dX3_of_47 ⟨Nat.le_of_ble_eq_true rfl, Nat.le_of_ble_eq_true rfl⟩ (fun r_17 H locs hB hJ hSn => ?_)
    obtain ⟨⟨hP1, hD1⟩, hf17_0, hf17_1⟩ := hB
    obtain ⟨hPn, hDn⟩ := hJ _ hP1 hD1 [(oK, .inr (3, [.ref k1, .ref k2, .int lK])), (k1, .inl (cI, 1024, .inl fK1)), (k2, .inl (cI, 1024, .inl fK2))] rfl
    clear hP hD hS hJ hP1 hD1
    have hP := hPn
    have hD := hDn
    have hS := hSn
    clear hPn hDn hSn
    refine lv_istore (lv' := [(5, .int r_17), (4, .int r_16), (3, .int (-1)), (0, .ref oK), (1, .int x), (2, .int y)]) hx hb dX3_of_50 hl (by decide) rfl (fun ls hl => ?_)
    refine lv_iload hx hb dX3_of_52 (lv_at hl 1 rfl) ?_
    refine lv_iload hx hb dX3_of_54 (lv_at hl 0 rfl) ?_
    refine lv_icmp_ne (tgt := 63) hx hb dX3_of_56 (by decide) (fun c_18 => ?_) (fun c_18 => ?_)
    · have tc_18 : ¬ r_16.toInt = r_17.toInt := v_ne c_18
      refine lv_bipush (v := 9) hx hb dX3_of_63 (by decide) ?_
      refine lv_istore (lv' := [(6, .int 9), (5, .int r_17), (4, .int r_16), (3, .int (-1)), (0, .ref oK), (1, .int x), (2, .int y)]) hx hb dX3_of_65 hl (by decide) rfl (fun ls hl => ?_)
      refine lv_iload hx hb dX3_of_67 (lv_at hl 0 rfl) ?_
      refine lv_iload hx hb dX3_of_69 (lv_at hl 2 rfl) ?_
      refine lv_if_ne (tgt := 79) hx hb dX3_of_71 (by decide) (fun c_19 => ?_) (fun c_19 => ?_)
      · have tc_19 : ¬ r_16.toInt = 0 := v_ne c_19
        refine lv_iconst (v := 0) hx hb dX3_of_79 (by decide) ?_
        refine lv_iadd hx hb dX3_of_80 ?_
        refine k_i (y := 9) (by decide) ?_
        refine lv_istore (lv' := [(6, .int 9), (5, .int r_17), (4, .int r_16), (3, .int (-1)), (0, .ref oK), (1, .int x), (2, .int y)]) hx hb dX3_of_81 hl (by decide) rfl (fun ls hl => ?_)
        refine lv_iload hx hb dX3_of_83 (lv_at hl 0 rfl) ?_
        refine lv_iload hx hb dX3_of_85 (lv_at hl 1 rfl) ?_
        refine lv_if_ne (tgt := 95) hx hb dX3_of_87 (by decide) (fun c_20 => ?_) (fun c_20 => ?_)
        · have tc_20 : ¬ r_17.toInt = 0 := v_ne c_20
          refine lv_iconst (v := 0) hx hb dX3_of_95 (by decide) ?_
          refine lv_iadd hx hb dX3_of_96 ?_
          refine k_i (y := 9) (by decide) ?_
          exact kl_i (v := 9) hQQ hx hb hr hlocks hS dX3_of_97 ⟨⟨hP, hD⟩, by decide, by first | (exfalso; omega) | (rw [tc_empty ho (by omega)]; unfold cF sC; rw [if_pos rfl, ← hf16_1, ← hf17_1]; (repeat (first | rw [if_pos (by omega)] | rw [if_neg (by omega)])) <;> rfl)⟩
        · have tc_20 : r_17.toInt = 0 := v_eq c_20
          refine lv_bipush (v := 30) hx hb dX3_of_90 (by decide) ?_
          refine lv_goto (tgt := 96) hx hb dX3_of_92 (by decide) ?_
          refine lv_iadd hx hb dX3_of_96 ?_
          refine k_i (y := 39) (by decide) ?_
          exact kl_i (v := 39) hQQ hx hb hr hlocks hS dX3_of_97 ⟨⟨hP, hD⟩, by decide, by first | (exfalso; omega) | (rw [tc_empty ho (by omega)]; unfold cF sC; rw [if_pos rfl, ← hf16_1, ← hf17_1]; (repeat (first | rw [if_pos (by omega)] | rw [if_neg (by omega)])) <;> rfl)⟩
      · have tc_19 : r_16.toInt = 0 := v_eq c_19
        refine lv_bipush (v := 30) hx hb dX3_of_74 (by decide) ?_
        refine lv_goto (tgt := 80) hx hb dX3_of_76 (by decide) ?_
        refine lv_iadd hx hb dX3_of_80 ?_
        refine k_i (y := 39) (by decide) ?_
        refine lv_istore (lv' := [(6, .int 39), (5, .int r_17), (4, .int r_16), (3, .int (-1)), (0, .ref oK), (1, .int x), (2, .int y)]) hx hb dX3_of_81 hl (by decide) rfl (fun ls hl => ?_)
        refine lv_iload hx hb dX3_of_83 (lv_at hl 0 rfl) ?_
        refine lv_iload hx hb dX3_of_85 (lv_at hl 1 rfl) ?_
        refine lv_if_ne (tgt := 95) hx hb dX3_of_87 (by decide) (fun c_21 => ?_) (fun c_21 => ?_)
        · have tc_21 : ¬ r_17.toInt = 0 := v_ne c_21
          refine lv_iconst (v := 0) hx hb dX3_of_95 (by decide) ?_
          refine lv_iadd hx hb dX3_of_96 ?_
          refine k_i (y := 39) (by decide) ?_
          exact kl_i (v := 39) hQQ hx hb hr hlocks hS dX3_of_97 ⟨⟨hP, hD⟩, by decide, by first | (exfalso; omega) | (rw [tc_empty ho (by omega)]; unfold cF sC; rw [if_pos rfl, ← hf16_1, ← hf17_1]; (repeat (first | rw [if_pos (by omega)] | rw [if_neg (by omega)])) <;> rfl)⟩
        · have tc_21 : r_17.toInt = 0 := v_eq c_21
          refine lv_bipush (v := 30) hx hb dX3_of_90 (by decide) ?_
          refine lv_goto (tgt := 96) hx hb dX3_of_92 (by decide) ?_
          refine lv_iadd hx hb dX3_of_96 ?_
          refine k_i (y := 69) (by decide) ?_
          exact kl_i (v := 69) hQQ hx hb hr hlocks hS dX3_of_97 ⟨⟨hP, hD⟩, by decide, by first | (exfalso; omega) | (rw [tc_empty ho (by omega)]; unfold cF sC; rw [if_pos rfl, ← hf16_1, ← hf17_1]; (repeat (first | rw [if_pos (by omega)] | rw [if_neg (by omega)])) <;> rfl)⟩
    · have tc_18 : r_16.toInt = r_17.toInt := v_eq c_18
      refine lv_iconst (v := 4) hx hb dX3_of_59 (by decide) ?_
      refine lv_goto (tgt := 65) hx hb dX3_of_60 (by decide) ?_
      refine lv_istore (lv' := [(6, .int 4), (5, .int r_17), (4, .int r_16), (3, .int (-1)), (0, .ref oK), (1, .int x), (2, .int y)]) hx hb dX3_of_65 hl (by decide) rfl (fun ls hl => ?_)
      refine lv_iload hx hb dX3_of_67 (lv_at hl 0 rfl) ?_
      refine lv_iload hx hb dX3_of_69 (lv_at hl 2 rfl) ?_
      refine lv_if_ne (tgt := 79) hx hb dX3_of_71 (by decide) (fun c_22 => ?_) (fun c_22 => ?_)
      · have tc_22 : ¬ r_16.toInt = 0 := v_ne c_22
        refine lv_iconst (v := 0) hx hb dX3_of_79 (by decide) ?_
        refine lv_iadd hx hb dX3_of_80 ?_
        refine k_i (y := 4) (by decide) ?_
        refine lv_istore (lv' := [(6, .int 4), (5, .int r_17), (4, .int r_16), (3, .int (-1)), (0, .ref oK), (1, .int x), (2, .int y)]) hx hb dX3_of_81 hl (by decide) rfl (fun ls hl => ?_)
        refine lv_iload hx hb dX3_of_83 (lv_at hl 0 rfl) ?_
        refine lv_iload hx hb dX3_of_85 (lv_at hl 1 rfl) ?_
        refine lv_if_ne (tgt := 95) hx hb dX3_of_87 (by decide) (fun c_23 => ?_) (fun c_23 => ?_)
        · have tc_23 : ¬ r_17.toInt = 0 := v_ne c_23
          refine lv_iconst (v := 0) hx hb dX3_of_95 (by decide) ?_
          refine lv_iadd hx hb dX3_of_96 ?_
          refine k_i (y := 4) (by decide) ?_
          exact kl_i (v := 4) hQQ hx hb hr hlocks hS dX3_of_97 ⟨⟨hP, hD⟩, by decide, by first | (exfalso; omega) | (rw [tc_empty ho (by omega)]; unfold cF sC; rw [if_pos rfl, ← hf16_1, ← hf17_1]; (repeat (first | rw [if_pos (by omega)] | rw [if_neg (by omega)])) <;> rfl)⟩
        · have tc_23 : r_17.toInt = 0 := v_eq c_23
          refine lv_bipush (v := 30) hx hb dX3_of_90 (by decide) ?_
          refine lv_goto (tgt := 96) hx hb dX3_of_92 (by decide) ?_
          refine lv_iadd hx hb dX3_of_96 ?_
          refine k_i (y := 34) (by decide) ?_
          exact kl_i (v := 34) hQQ hx hb hr hlocks hS dX3_of_97 ⟨⟨hP, hD⟩, by decide, by first | (exfalso; omega) | (rw [tc_empty ho (by omega)]; unfold cF sC; rw [if_pos rfl, ← hf16_1, ← hf17_1]; (repeat (first | rw [if_pos (by omega)] | rw [if_neg (by omega)])) <;> rfl)⟩
      · have tc_22 : r_16.toInt = 0 := v_eq c_22
        refine lv_bipush (v := 30) hx hb dX3_of_74 (by decide) ?_
        refine lv_goto (tgt := 80) hx hb dX3_of_76 (by decide) ?_
        refine lv_iadd hx hb dX3_of_80 ?_
        refine k_i (y := 34) (by decide) ?_
        refine lv_istore (lv' := [(6, .int 34), (5, .int r_17), (4, .int r_16), (3, .int (-1)), (0, .ref oK), (1, .int x), (2, .int y)]) hx hb dX3_of_81 hl (by decide) rfl (fun ls hl => ?_)
        refine lv_iload hx hb dX3_of_83 (lv_at hl 0 rfl) ?_
        refine lv_iload hx hb dX3_of_85 (lv_at hl 1 rfl) ?_
        refine lv_if_ne (tgt := 95) hx hb dX3_of_87 (by decide) (fun c_24 => ?_) (fun c_24 => ?_)
        · have tc_24 : ¬ r_17.toInt = 0 := v_ne c_24
          refine lv_iconst (v := 0) hx hb dX3_of_95 (by decide) ?_
          refine lv_iadd hx hb dX3_of_96 ?_
          refine k_i (y := 34) (by decide) ?_
          exact kl_i (v := 34) hQQ hx hb hr hlocks hS dX3_of_97 ⟨⟨hP, hD⟩, by decide, by first | (exfalso; omega) | (rw [tc_empty ho (by omega)]; unfold cF sC; rw [if_pos rfl, ← hf16_1, ← hf17_1]; (repeat (first | rw [if_pos (by omega)] | rw [if_neg (by omega)])) <;> rfl)⟩
        · have tc_24 : r_17.toInt = 0 := v_eq c_24
          refine lv_bipush (v := 30) hx hb dX3_of_90 (by decide) ?_
          refine lv_goto (tgt := 96) hx hb dX3_of_92 (by decide) ?_
          refine lv_iadd hx hb dX3_of_96 ?_
          refine k_i (y := 64) (by decide) ?_
          exact kl_i (v := 64) hQQ hx hb hr hlocks hS dX3_of_97 ⟨⟨hP, hD⟩, by decide, by first | (exfalso; omega) | (rw [tc_empty ho (by omega)]; unfold cF sC; rw [if_pos rfl, ← hf16_1, ← hf17_1]; (repeat (first | rw [if_pos (by omega)] | rw [if_neg (by omega)])) <;> rfl)⟩

set_option maxHeartbeats 40000000 in
set_option maxRecDepth 100000 in
theorem f_X3_ofText (l : Launch) (dC : Nat → ClassId) (dI : Nat → Nat → Nat) (cI cS : ClassId) (sz : Nat) (oK : Nat) (nx : Nat) (k1 : Nat) (k2 : Nat) (ax : Nat) (lK : Int32) (fK1 : Nat → Int32) (fK2 : Nat → Int32) (lx : Int32) (fx : Nat → Int32) (g_lK : 0 ≤ lK.toInt ∧ lK.toInt ≤ 300) (g_lx : 0 ≤ lx.toInt ∧ lx.toInt ≤ 300) (hT : HT 1024 1023 hsK fK1 fK2) (ho : (occ fK2 1024 : Int) ≤ lK.toInt) (hV : prg 1024 (-1) 200 fK2) (hlt : prg lx.toInt 0 65535 fx) : kMi l yX3_ofText wsX3_ofText ({ frames := 3, cells := 0, slots := 0, locals := 73 } : Room) [.ref oK, .ref nx] sz (dC, dI) vwCl [(cI, .int), (cS, .short)] [(oK, .inr (3, [.ref k1, .ref k2, .int lK])), (k1, .inl (cI, 1024, .inl fK1)), (k2, .inl (cI, 1024, .inl fK2)), (nx, .inr (5, [.ref ax, .int lx])), (ax, .inl (cI, 300, .inl fx))] (fun _ => True) 0 0 (fun (A : Nat → Prop) (r : Int32) (hh9 : Heap) => kPD (dC, dI) vwCl A [(oK, .inr (3, [.ref k1, .ref k2, .int lK])), (k1, .inl (cI, 1024, .inl fK1)), (k2, .inl (cI, 1024, .inl fK2)), (nx, .inr (5, [.ref ax, .int lx])), (ax, .inl (cI, 300, .inl fx))] hh9 ∧ (0 ≤ r.toInt ∧ r.toInt ≤ 61000) ∧ (r.toInt = cT (tcC fK1 fK2) lx.toInt fx)) := by
  refine kMi_of (cc := cX3_ofText) (maxL := 6) (ret := (some .int)) (lv := [(0, .ref oK), (1, .ref nx)]) (by decide +kernel) rfl rfl (Nat.le_of_ble_eq_true rfl) ?_
  intro p e s m below meth c A QQ ls hx hb hr hts hml hown hlocks hA hQQ hK hX hP hD hS hl
  have hown : s.vm.findClass RX3 = some m.cls := hown
  have hcf := k_cf hx hb hml hown hts
  refine lv_iconst (v := 0) hx hb dX3_ofText_0 (by decide) ?_
  refine lv_istore_n (lv' := [(2, .int 0), (0, .ref oK), (1, .ref nx)]) hx hb dX3_ofText_1 rfl hl (by decide) rfl (fun ls hl => ?_)
  refine lv_bipush (v := 32) hx hb dX3_ofText_2 (by decide) ?_
  refine lv_istore_n (lv' := [(3, .int 32), (2, .int 0), (0, .ref oK), (1, .ref nx)]) hx hb dX3_ofText_4 rfl hl (by decide) rfl (fun ls hl => ?_)
  refine lv_iconst (v := 0) hx hb dX3_ofText_5 (by decide) ?_
  refine lv_istore (lv' := [(4, .int 0), (3, .int 32), (2, .int 0), (0, .ref oK), (1, .ref nx)]) hx hb dX3_ofText_6 hl (by decide) rfl (fun ls hl => ?_)
  have LOOP_8 : ∀ (k_8 : Nat) (su : Int32) (be : Int32) (i : Int32) (H : Heap) (locs : List Loc) (ls : Array Slot), MSd (lx.toInt - i.toInt : Int) k_8 → (0 ≤ su.toInt ∧ su.toInt ≤ 60200) → (0 ≤ be.toInt ∧ be.toInt ≤ 65535) → (0 ≤ i.toInt ∧ i.toInt ≤ 300) → (i.toInt ≤ lx.toInt) → (su.toInt ≤ 200 * i.toInt) → (su.toInt = cs (tcC fK1 fK2) fx i.toNatClampNeg) → (be = pv fx i.toNatClampNeg) → va_P (dC, dI) vwCl [(oK, .inr (3, [.ref k1, .ref k2, .int lK])), (k1, .inl (cI, 1024, .inl fK1)), (k2, .inl (cI, 1024, .inl fK2)), (nx, .inr (5, [.ref ax, .int lx])), (ax, .inl (cI, 300, .inl fx))] H → va_D A [(oK, .inr (3, [.ref k1, .ref k2, .int lK])), (k1, .inl (cI, 1024, .inl fK1)), (k2, .inl (cI, 1024, .inl fK2)), (nx, .inr (5, [.ref ax, .int lx])), (ax, .inl (cI, 300, .inl fx))] → va_S A s.heap H locs → lv_has ls 6 [(4, .int i), (3, .int be), (2, .int su), (0, .ref oK), (1, .ref nx)] → W p l e (headSpec wsX3_ofText ({ frames := 3, cells := 0, slots := 0, locals := 73 } : Room)).room s m ([.ref oK, .ref nx] : List Value).toArray below meth c H locs 0 0 (MQ below QQ ([.ref oK, .ref nx] : List Value).toArray s 0 0 A) (F0 m 8 ls []) := by
    clear hP hD hS hl
    intro k_8
    induction k_8 with
    | zero =>
      intro su be i H locs ls hm_8 g_su g_be g_i hil hs2 hsu hbe hP hD hS hl
      exact ms_0 hm_8
    | succ k_8 ih_8 =>
      intro su be i H locs ls hm_8 g_su g_be g_i hil hs2 hsu hbe hP hD hS hl
      refine lv_iload hx hb dX3_ofText_8 (lv_at hl 0 rfl) ?_
      refine lv_aload_n hx hb dX3_ofText_10 rfl (lv_at hl 4 rfl) ?_
      refine kV_i (rest := [.int i]) (q0 := 0) (ci := 5) hcf (m_X5_length l dC dI cI cS H.size nx ax lx ) kc_X5_length gX3_ofText_X5_length rfl rfl rfl ⟨Nat.le_of_ble_eq_true rfl, Nat.le_of_ble_eq_true rfl⟩ kX_t hK hP hD hS hA [3] [0, 1, 2, 4] rfl (by decide +kernel) rfl rfl rfl hl rfl (Nat.le_of_ble_eq_true rfl) dX3_ofText_11 ⟨Nat.le_of_ble_eq_true rfl, Nat.le_of_ble_eq_true rfl⟩ (fun r_1 H locs hB hJ hSn => ?_)
      obtain ⟨⟨hP1, hD1⟩, hf1_0⟩ := hB
      obtain ⟨hPn, hDn⟩ := hJ _ hP1 hD1 [(oK, .inr (3, [.ref k1, .ref k2, .int lK])), (k1, .inl (cI, 1024, .inl fK1)), (k2, .inl (cI, 1024, .inl fK2)), (ax, .inl (cI, 300, .inl fx)), (nx, .inr (5, [.ref ax, .int lx]))] rfl
      clear hP hD hS hJ hP1 hD1
      have hP := hPn
      have hD := hDn
      have hS := hSn
      clear hPn hDn hSn
      rw [hf1_0]
      refine lv_icmp_ge (tgt := 44) hx hb dX3_ofText_14 (by decide) (fun c_2 => ?_) (fun c_2 => ?_)
      · have tc_2 : lx.toInt ≤ i.toInt := v_le c_2
        refine lv_iload_n hx hb dX3_ofText_44 rfl (lv_at hl 2 rfl) ?_
        refine lv_aload_n hx hb dX3_ofText_45 rfl (lv_at hl 3 rfl) ?_
        refine lv_iload_n hx hb dX3_ofText_46 rfl (lv_at hl 1 rfl) ?_
        refine lv_bipush (v := 32) hx hb dX3_ofText_47 (by decide) ?_
        refine kV_i (rest := [.int su]) (q0 := 0) (ci := 3) hcf (f_X3_of l dC dI cI cS H.size oK k1 k2 lK fK1 fK2 be 32 (g_lK) (g_be) (by decide) (hT) (ho) (hV)) kc_X3_of gX3_ofText_X3_of rfl rfl rfl ⟨Nat.le_of_ble_eq_true rfl, Nat.le_of_ble_eq_true rfl⟩ kX_t hK hP hD hS hA [0, 1, 2] [3, 4] rfl (by decide +kernel) rfl rfl rfl hl rfl (Nat.le_of_ble_eq_true rfl) dX3_ofText_49 ⟨Nat.le_of_ble_eq_true rfl, Nat.le_of_ble_eq_true rfl⟩ (fun r_3 H locs hB hJ hSn => ?_)
        obtain ⟨⟨hP1, hD1⟩, hf3_0, hf3_1⟩ := hB
        obtain ⟨hPn, hDn⟩ := hJ _ hP1 hD1 [(ax, .inl (cI, 300, .inl fx)), (nx, .inr (5, [.ref ax, .int lx])), (oK, .inr (3, [.ref k1, .ref k2, .int lK])), (k1, .inl (cI, 1024, .inl fK1)), (k2, .inl (cI, 1024, .inl fK2))] rfl
        clear hP hD hS hJ hP1 hD1
        have hP := hPn
        have hD := hDn
        have hS := hSn
        clear hPn hDn hSn
        refine lv_iadd hx hb dX3_ofText_52 ?_
        refine lv_topi (fun x_4 ex_4 => ?_)
        have tx_4 : x_4.toInt = su.toInt + r_3.toInt := v_addR ex_4 g_su hf3_0 (by decide) (by decide)
        exact kl_i (v := x_4) hQQ hx hb hr hlocks hS dX3_ofText_53 ⟨kPD_sub hP hD [2, 3, 4, 1, 0] (by decide +kernel) rfl, v_rr (v_sumR (l := 0) (h := 60400) tx_4 g_su hf3_0 (by decide) (by decide)) (by decide) (by decide), cT_of hsu hbe hf3_1 (by omega) (by omega) (by omega)⟩
      · have tc_2 : i.toInt < lx.toInt := v_nle c_2
        refine lv_aload_n hx hb dX3_ofText_17 rfl (lv_at hl 4 rfl) ?_
        refine lv_iload hx hb dX3_ofText_18 (lv_at hl 0 rfl) ?_
        refine kV_i (rest := []) (q0 := 0) (ci := 5) hcf (m_X5_get l dC dI cI cS H.size nx ax 300 lx fx i (by omega) (by omega)) kc_X5_get gX3_ofText_X5_get rfl rfl rfl ⟨Nat.le_of_ble_eq_true rfl, Nat.le_of_ble_eq_true rfl⟩ kX_t hK hP hD hS hA [4, 3] [0, 1, 2] rfl (by decide +kernel) rfl rfl rfl hl rfl (Nat.le_of_ble_eq_true rfl) dX3_ofText_20 ⟨Nat.le_of_ble_eq_true rfl, Nat.le_of_ble_eq_true rfl⟩ (fun r_5 H locs hB hJ hSn => ?_)
        obtain ⟨⟨hP1, hD1⟩, hf5_0⟩ := hB
        obtain ⟨hPn, hDn⟩ := hJ _ hP1 hD1 [(oK, .inr (3, [.ref k1, .ref k2, .int lK])), (k1, .inl (cI, 1024, .inl fK1)), (k2, .inl (cI, 1024, .inl fK2)), (nx, .inr (5, [.ref ax, .int lx])), (ax, .inl (cI, 300, .inl fx))] rfl
        clear hP hD hS hJ hP1 hD1
        have hP := hPn
        have hD := hDn
        have hS := hSn
        clear hPn hDn hSn
        have hg5 : r_5 = fx i.toNatClampNeg := F_get_f hf5_0 (by omega) (by omega)
        have hgr5 : 0 ≤ r_5.toInt ∧ r_5.toInt ≤ 65535 := prg_at hlt hg5 (by omega) (by omega)
        refine lv_istore (lv' := [(5, .int r_5), (4, .int i), (3, .int be), (2, .int su), (0, .ref oK), (1, .ref nx)]) hx hb dX3_ofText_23 hl (by decide) rfl (fun ls hl => ?_)
        refine lv_iload_n hx hb dX3_ofText_25 rfl (lv_at hl 3 rfl) ?_
        refine lv_aload_n hx hb dX3_ofText_26 rfl (lv_at hl 4 rfl) ?_
        refine lv_iload_n hx hb dX3_ofText_27 rfl (lv_at hl 2 rfl) ?_
        refine lv_iload hx hb dX3_ofText_28 (lv_at hl 0 rfl) ?_
        refine kV_i (rest := [.int su]) (q0 := 0) (ci := 3) hcf (f_X3_of l dC dI cI cS H.size oK k1 k2 lK fK1 fK2 be r_5 (g_lK) (g_be) (by omega) (hT) (ho) (hV)) kc_X3_of gX3_ofText_X3_of rfl rfl rfl ⟨Nat.le_of_ble_eq_true rfl, Nat.le_of_ble_eq_true rfl⟩ kX_t hK hP hD hS hA [0, 1, 2] [3, 4] rfl (by decide +kernel) rfl rfl rfl hl rfl (Nat.le_of_ble_eq_true rfl) dX3_ofText_30 ⟨Nat.le_of_ble_eq_true rfl, Nat.le_of_ble_eq_true rfl⟩ (fun r_6 H locs hB hJ hSn => ?_)
        obtain ⟨⟨hP1, hD1⟩, hf6_0, hf6_1⟩ := hB
        obtain ⟨hPn, hDn⟩ := hJ _ hP1 hD1 [(nx, .inr (5, [.ref ax, .int lx])), (ax, .inl (cI, 300, .inl fx)), (oK, .inr (3, [.ref k1, .ref k2, .int lK])), (k1, .inl (cI, 1024, .inl fK1)), (k2, .inl (cI, 1024, .inl fK2))] rfl
        clear hP hD hS hJ hP1 hD1
        have hP := hPn
        have hD := hDn
        have hS := hSn
        clear hPn hDn hSn
        refine lv_iadd hx hb dX3_ofText_33 ?_
        refine lv_topi (fun x_7 ex_7 => ?_)
        have tx_7 : x_7.toInt = su.toInt + r_6.toInt := v_addR ex_7 g_su hf6_0 (by decide) (by decide)
        refine lv_istore_n (lv' := [(2, .int x_7), (5, .int r_5), (4, .int i), (3, .int be), (0, .ref oK), (1, .ref nx)]) hx hb dX3_ofText_34 rfl hl (by decide) rfl (fun ls hl => ?_)
        refine lv_iload hx hb dX3_ofText_35 (lv_at hl 1 rfl) ?_
        refine lv_istore_n (lv' := [(3, .int r_5), (2, .int x_7), (5, .int r_5), (4, .int i), (0, .ref oK), (1, .ref nx)]) hx hb dX3_ofText_37 rfl hl (by decide) rfl (fun ls hl => ?_)
        obtain ⟨x_8, ex_8⟩ : ∃ y : Int32, y = i + 1 := ⟨_, rfl⟩
        have tx_8 : x_8.toInt = i.toInt + 1 := v_addR (l2 := 1) (h2 := 1) ex_8 g_i (by decide) (by decide) (by decide)
        refine lv_iinc (v := x_8) (lv' := [(4, .int x_8), (3, .int r_5), (2, .int x_7), (5, .int r_5), (0, .ref oK), (1, .ref nx)]) hx hb dX3_ofText_38 hl (k := 3) rfl (by rw [ex_8]; rfl) (by decide) rfl (fun ls hl => ?_)
        refine lv_goto (tgt := 8) hx hb dX3_ofText_41 (by decide) ?_
        exact ih_8 x_7 r_5 x_8 _ _ _ (ms_lt hm_8 (by show ((lx.toInt - x_8.toInt : Int)) < lx.toInt - i.toInt; omega) (by show (0 : Int) < lx.toInt - i.toInt; omega)) (by show 0 ≤ x_7.toInt ∧ x_7.toInt ≤ 60200; omega) (by show 0 ≤ r_5.toInt ∧ r_5.toInt ≤ 65535; omega) (by show 0 ≤ x_8.toInt ∧ x_8.toInt ≤ 300; omega) (by show x_8.toInt ≤ lx.toInt; omega) (by show x_7.toInt ≤ 200 * x_8.toInt; omega) ((cs_s hsu hbe hg5 hf6_1 (by omega) (by omega) (by omega)).1) ((cs_s hsu hbe hg5 hf6_1 (by omega) (by omega) (by omega)).2) (hP.sub [2, 3, 4, 0, 1] rfl) (hD.sub [2, 3, 4, 0, 1] (by decide +kernel) rfl) hS (lv_sub hl [0, 1, 2, 4, 5] rfl)
  exact LOOP_8 _ 0 32 0 _ _ _ (ms_s _) (by decide) (by decide) (by decide) (by show 0 ≤ lx.toInt; omega) (by show 0 ≤ 200 * 0; omega) (rfl) (rfl) hP hD hS (lv_sub hl [0, 1, 2, 3, 4] rfl)

set_option maxHeartbeats 40000000 in
set_option maxRecDepth 100000 in
theorem f_X12_costOf (l : Launch) (dC : Nat → ClassId) (dI : Nat → Nat → Nat) (cI cS : ClassId) (sz : Nat) (oM : Nat) (mT : Nat) (mS : Nat) (mX : Nat) (mL : Nat) (mB : Nat) (mD : Nat) (m1 : Nat) (m2 : Nat) (mR : Nat) (x1 : Nat) (x2 : Nat) (x3 : Nat) (mH : Nat) (mY : Nat) (mE : Nat) (mW : Nat) (mO : Nat) (y1 : Nat) (y2 : Nat) (y3 : Nat) (y4 : Nat) (mZ : Nat) (zt : Int32) (zp : Int32) (zf : Int32) (zh : Int32) (zr : Int32) (zc : Int32) (zy : Int32) (za : Int32) (zb : Int32) (zs : Int32) (zq : Int32) (zw : Int32) (ze : Int32) (zn : Int32) (zm : Int32) (zl : Int32) (zk : Int32) (zd : Int32) (ec1 : Nat → Int32) (ec2 : Nat → Int32) (ec3 : Nat → Int32) (x : Int32) (y : Int32) (g_zt : 0 ≤ zt.toInt ∧ zt.toInt ≤ 900) (g_zp : 0 ≤ zp.toInt ∧ zp.toInt ≤ 20) (g_zf : 0 ≤ zf.toInt ∧ zf.toInt ≤ 19) (g_zh : 0 ≤ zh.toInt ∧ zh.toInt ≤ 6) (g_zr : 0 ≤ zr.toInt ∧ zr.toInt ≤ 258) (g_zc : 0 ≤ zc.toInt ∧ zc.toInt ≤ 300) (g_zy : 0 ≤ zy.toInt ∧ zy.toInt ≤ 65536) (g_za : 0 ≤ za.toInt ∧ za.toInt ≤ 5) (g_zb : 0 ≤ zb.toInt ∧ zb.toInt ≤ 5) (g_zs : 0 ≤ zs.toInt ∧ zs.toInt ≤ 2000000) (g_zq : -1 ≤ zq.toInt ∧ zq.toInt ≤ 2000000) (g_zn : 0 ≤ zn.toInt ∧ zn.toInt ≤ 2600) (g_zm : 0 ≤ zm.toInt ∧ zm.toInt ≤ 2600) (g_zk : 0 ≤ zk.toInt ∧ zk.toInt ≤ 300) (g_x : 0 ≤ x.toInt ∧ x.toInt ≤ 65535) (g_y : 0 ≤ y.toInt ∧ y.toInt ≤ 65535) (hV : rg 0 200 ec3) : kMi l yX12_costOf wsX12_costOf ({ frames := 1, cells := 0, slots := 0, locals := 20 } : Room) [.ref oM, .int x, .int y] sz (dC, dI) vwCl [(cI, .int), (cS, .short)] [(oM, .inr (12, [.ref mT, .int zt, .ref mS, .ref mX, .int zp, .int zf, .ref mL, .ref mB, .ref mD, .ref m1, .ref m2, .int zh, .ref mR, .int zr, .ref x1, .ref x2, .ref x3, .int zc, .ref mH, .int zy, .int za, .int zb, .int zs, .int zq, .int zw, .int ze, .ref mY, .int zn, .ref mE, .int zm, .int zl, .ref mW, .int zk, .ref mO, .int zd, .ref y1, .ref y2, .ref y3, .ref y4, .ref mZ])), (x1, .inl (cI, 300, .inl ec1)), (x2, .inl (cI, 300, .inl ec2)), (x3, .inl (cI, 300, .inl ec3))] (fun _ => True) 0 0 (fun (A : Nat → Prop) (r : Int32) (hh9 : Heap) => kPD (dC, dI) vwCl A [(oM, .inr (12, [.ref mT, .int zt, .ref mS, .ref mX, .int zp, .int zf, .ref mL, .ref mB, .ref mD, .ref m1, .ref m2, .int zh, .ref mR, .int zr, .ref x1, .ref x2, .ref x3, .int zc, .ref mH, .int zy, .int za, .int zb, .int zs, .int zq, .int zw, .int ze, .ref mY, .int zn, .ref mE, .int zm, .int zl, .ref mW, .int zk, .ref mO, .int zd, .ref y1, .ref y2, .ref y3, .ref y4, .ref mZ])), (x1, .inl (cI, 300, .inl ec1)), (x2, .inl (cI, 300, .inl ec2)), (x3, .inl (cI, 300, .inl ec3))] hh9 ∧ (0 ≤ r.toInt ∧ r.toInt ≤ 200) ∧ (r.toInt = cF (tcR zc.toInt ec1 ec2 ec3 x y) x y)) := by
  refine kMi_of (cc := cX12_costOf) (maxL := 5) (ret := (some .int)) (lv := [(0, .ref oM), (1, .int x), (2, .int y)]) (by decide +kernel) rfl rfl (Nat.le_of_ble_eq_true rfl) ?_
  intro p e s m below meth c A QQ ls hx hb hr hts hml hown hlocks hA hQQ hK hX hP hD hS hl
  have hown : s.vm.findClass RX12 = some m.cls := hown
  have hcf := k_cf hx hb hml hown hts
  have in_X12 : ∀ w ∈ wsX120, w ∈ wsX12_costOf := fun _ h => List.mem_cons_of_mem _ (List.mem_append_right _ (h))
  replace g_zt := hid g_zt
  replace g_zp := hid g_zp
  replace g_zf := hid g_zf
  replace g_zh := hid g_zh
  replace g_zr := hid g_zr
  replace g_zy := hid g_zy
  replace g_za := hid g_za
  replace g_zb := hid g_zb
  replace g_zs := hid g_zs
  replace g_zq := hid g_zq
  replace g_zn := hid g_zn
  replace g_zm := hid g_zm
  replace g_zk := hid g_zk
  refine lv_iconst (v := 0) hx hb dX12_costOf_0 (by decide) ?_
  refine lv_istore_n (lv' := [(3, .int 0), (0, .ref oM), (1, .int x), (2, .int y)]) hx hb dX12_costOf_1 rfl hl (by decide) rfl (fun ls hl => ?_)
  have LOOP_2 : ∀ (k_2 : Nat) (k : Int32) (H : Heap) (locs : List Loc) (ls : Array Slot), MSd (300 - k.toInt : Int) k_2 → (0 ≤ k.toInt ∧ k.toInt ≤ 300) → (k.toInt ≤ zc.toInt) → (noP k.toInt x y ec1 ec2) → va_P (dC, dI) vwCl [(oM, .inr (12, [.ref mT, .int zt, .ref mS, .ref mX, .int zp, .int zf, .ref mL, .ref mB, .ref mD, .ref m1, .ref m2, .int zh, .ref mR, .int zr, .ref x1, .ref x2, .ref x3, .int zc, .ref mH, .int zy, .int za, .int zb, .int zs, .int zq, .int zw, .int ze, .ref mY, .int zn, .ref mE, .int zm, .int zl, .ref mW, .int zk, .ref mO, .int zd, .ref y1, .ref y2, .ref y3, .ref y4, .ref mZ])), (x1, .inl (cI, 300, .inl ec1)), (x2, .inl (cI, 300, .inl ec2)), (x3, .inl (cI, 300, .inl ec3))] H → va_D A [(oM, .inr (12, [.ref mT, .int zt, .ref mS, .ref mX, .int zp, .int zf, .ref mL, .ref mB, .ref mD, .ref m1, .ref m2, .int zh, .ref mR, .int zr, .ref x1, .ref x2, .ref x3, .int zc, .ref mH, .int zy, .int za, .int zb, .int zs, .int zq, .int zw, .int ze, .ref mY, .int zn, .ref mE, .int zm, .int zl, .ref mW, .int zk, .ref mO, .int zd, .ref y1, .ref y2, .ref y3, .ref y4, .ref mZ])), (x1, .inl (cI, 300, .inl ec1)), (x2, .inl (cI, 300, .inl ec2)), (x3, .inl (cI, 300, .inl ec3))] → va_S A s.heap H locs → lv_has ls 5 [(3, .int k), (0, .ref oM), (1, .int x), (2, .int y)] → W p l e (headSpec wsX12_costOf ({ frames := 1, cells := 0, slots := 0, locals := 20 } : Room)).room s m ([.ref oM, .int x, .int y] : List Value).toArray below meth c H locs 0 0 (MQ below QQ ([.ref oM, .int x, .int y] : List Value).toArray s 0 0 A) (F0 m 2 ls []) := by
    clear hP hD hS hl
    intro k_2
    induction k_2 with
    | zero =>
      intro k H locs ls hm_2 g_k hkc hno hP hD hS hl
      exact ms_0 hm_2
    | succ k_2 ih_2 =>
      intro k H locs ls hm_2 g_k hkc hno hP hD hS hl
      refine lv_iload_n hx hb dX12_costOf_2 rfl (lv_at hl 0 rfl) ?_
      refine lv_aload_n hx hb dX12_costOf_3 rfl (lv_at hl 1 rfl) ?_
      refine va_get (D := (dC, dI)) (ci := 12) (v := .int zc) (C := RX12) (T := TX12) (N := 40) hx hb hts in_X12 hown hK hP 0 rfl rfl 17 (by decide) (hts (.fieldLink RX12 168 "TextMenderModel" "costs" "I") (List.mem_of_getElem? (i := 1) rfl)) (fun _ h9 => h9) rfl dX12_costOf_4 ?_
      refine lv_icmp_ge (tgt := 43) hx hb dX12_costOf_7 (by decide) (fun c_1 => ?_) (fun c_1 => ?_)
      · have tc_1 : zc.toInt ≤ k.toInt := v_le c_1
        refine lv_iload_n hx hb dX12_costOf_43 rfl (lv_at hl 2 rfl) ?_
        refine kS_i (rest := []) hcf (f_X12_sortOf l dC dI cI cS H.size x ) kc_X12_sortOf gX12_costOf_X12_sortOf rfl rfl ⟨Nat.le_of_ble_eq_true rfl, Nat.le_of_ble_eq_true rfl⟩ kX_t hK hP hD hS hA [] [0, 1, 2, 3] rfl (by decide +kernel) rfl hl rfl (Nat.le_of_ble_eq_true rfl) dX12_costOf_44 ⟨Nat.le_of_ble_eq_true rfl, Nat.le_of_ble_eq_true rfl⟩ (fun r_2 H locs hB hJ hSn => ?_)
        obtain ⟨⟨hP1, hD1⟩, hf2_0, hf2_1⟩ := hB
        obtain ⟨hPn, hDn⟩ := hJ _ hP1 hD1 [(oM, .inr (12, [.ref mT, .int zt, .ref mS, .ref mX, .int zp, .int zf, .ref mL, .ref mB, .ref mD, .ref m1, .ref m2, .int zh, .ref mR, .int zr, .ref x1, .ref x2, .ref x3, .int zc, .ref mH, .int zy, .int za, .int zb, .int zs, .int zq, .int zw, .int ze, .ref mY, .int zn, .ref mE, .int zm, .int zl, .ref mW, .int zk, .ref mO, .int zd, .ref y1, .ref y2, .ref y3, .ref y4, .ref mZ])), (x1, .inl (cI, 300, .inl ec1)), (x2, .inl (cI, 300, .inl ec2)), (x3, .inl (cI, 300, .inl ec3))] rfl
        clear hP hD hS hJ hP1 hD1
        have hP := hPn
        have hD := hDn
        have hS := hSn
        clear hPn hDn hSn
        refine lv_istore_n (lv' := [(3, .int r_2), (0, .ref oM), (1, .int x), (2, .int y)]) hx hb dX12_costOf_47 rfl hl (by decide) rfl (fun ls hl => ?_)
        refine lv_iload_n hx hb dX12_costOf_48 rfl (lv_at hl 3 rfl) ?_
        refine kS_i (rest := []) hcf (f_X12_sortOf l dC dI cI cS H.size y ) kc_X12_sortOf gX12_costOf_X12_sortOf rfl rfl ⟨Nat.le_of_ble_eq_true rfl, Nat.le_of_ble_eq_true rfl⟩ kX_t hK hP hD hS hA [] [0, 1, 2, 3] rfl (by decide +kernel) rfl hl rfl (Nat.le_of_ble_eq_true rfl) dX12_costOf_49 ⟨Nat.le_of_ble_eq_true rfl, Nat.le_of_ble_eq_true rfl⟩ (fun r_3 H locs hB hJ hSn => ?_)
        obtain ⟨⟨hP1, hD1⟩, hf3_0, hf3_1⟩ := hB
        obtain ⟨hPn, hDn⟩ := hJ _ hP1 hD1 [(oM, .inr (12, [.ref mT, .int zt, .ref mS, .ref mX, .int zp, .int zf, .ref mL, .ref mB, .ref mD, .ref m1, .ref m2, .int zh, .ref mR, .int zr, .ref x1, .ref x2, .ref x3, .int zc, .ref mH, .int zy, .int za, .int zb, .int zs, .int zq, .int zw, .int ze, .ref mY, .int zn, .ref mE, .int zm, .int zl, .ref mW, .int zk, .ref mO, .int zd, .ref y1, .ref y2, .ref y3, .ref y4, .ref mZ])), (x1, .inl (cI, 300, .inl ec1)), (x2, .inl (cI, 300, .inl ec2)), (x3, .inl (cI, 300, .inl ec3))] rfl
        clear hP hD hS hJ hP1 hD1
        have hP := hPn
        have hD := hDn
        have hS := hSn
        clear hPn hDn hSn
        refine lv_istore (lv' := [(4, .int r_3), (3, .int r_2), (0, .ref oM), (1, .int x), (2, .int y)]) hx hb dX12_costOf_52 hl (by decide) rfl (fun ls hl => ?_)
        refine lv_iload_n hx hb dX12_costOf_54 rfl (lv_at hl 1 rfl) ?_
        refine lv_iload hx hb dX12_costOf_55 (lv_at hl 0 rfl) ?_
        refine lv_icmp_ne (tgt := 64) hx hb dX12_costOf_57 (by decide) (fun c_4 => ?_) (fun c_4 => ?_)
        · have tc_4 : ¬ r_2.toInt = r_3.toInt := v_ne c_4
          refine lv_bipush (v := 9) hx hb dX12_costOf_64 (by decide) ?_
          refine lv_iload_n hx hb dX12_costOf_66 rfl (lv_at hl 1 rfl) ?_
          refine lv_if_ne (tgt := 75) hx hb dX12_costOf_67 (by decide) (fun c_5 => ?_) (fun c_5 => ?_)
          · have tc_5 : ¬ r_2.toInt = 0 := v_ne c_5
            refine lv_iconst (v := 0) hx hb dX12_costOf_75 (by decide) ?_
            refine lv_iadd hx hb dX12_costOf_76 ?_
            refine k_i (y := 9) (by decide) ?_
            refine lv_iload hx hb dX12_costOf_77 (lv_at hl 0 rfl) ?_
            refine lv_if_ne (tgt := 87) hx hb dX12_costOf_79 (by decide) (fun c_6 => ?_) (fun c_6 => ?_)
            · have tc_6 : ¬ r_3.toInt = 0 := v_ne c_6
              refine lv_iconst (v := 0) hx hb dX12_costOf_87 (by decide) ?_
              refine lv_iadd hx hb dX12_costOf_88 ?_
              refine k_i (y := 9) (by decide) ?_
              exact kl_i (v := 9) hQQ hx hb hr hlocks hS dX12_costOf_89 ⟨⟨hP, hD⟩, by decide, by first | (exfalso; omega) | (rw [tcR_no (fun j hj => hno j (by omega))]; unfold cF sC; rw [if_pos rfl, ← hf2_1, ← hf3_1]; (repeat (first | rw [if_pos (by omega)] | rw [if_neg (by omega)])) <;> rfl)⟩
            · have tc_6 : r_3.toInt = 0 := v_eq c_6
              refine lv_bipush (v := 30) hx hb dX12_costOf_82 (by decide) ?_
              refine lv_goto (tgt := 88) hx hb dX12_costOf_84 (by decide) ?_
              refine lv_iadd hx hb dX12_costOf_88 ?_
              refine k_i (y := 39) (by decide) ?_
              exact kl_i (v := 39) hQQ hx hb hr hlocks hS dX12_costOf_89 ⟨⟨hP, hD⟩, by decide, by first | (exfalso; omega) | (rw [tcR_no (fun j hj => hno j (by omega))]; unfold cF sC; rw [if_pos rfl, ← hf2_1, ← hf3_1]; (repeat (first | rw [if_pos (by omega)] | rw [if_neg (by omega)])) <;> rfl)⟩
          · have tc_5 : r_2.toInt = 0 := v_eq c_5
            refine lv_bipush (v := 30) hx hb dX12_costOf_70 (by decide) ?_
            refine lv_goto (tgt := 76) hx hb dX12_costOf_72 (by decide) ?_
            refine lv_iadd hx hb dX12_costOf_76 ?_
            refine k_i (y := 39) (by decide) ?_
            refine lv_iload hx hb dX12_costOf_77 (lv_at hl 0 rfl) ?_
            refine lv_if_ne (tgt := 87) hx hb dX12_costOf_79 (by decide) (fun c_7 => ?_) (fun c_7 => ?_)
            · have tc_7 : ¬ r_3.toInt = 0 := v_ne c_7
              refine lv_iconst (v := 0) hx hb dX12_costOf_87 (by decide) ?_
              refine lv_iadd hx hb dX12_costOf_88 ?_
              refine k_i (y := 39) (by decide) ?_
              exact kl_i (v := 39) hQQ hx hb hr hlocks hS dX12_costOf_89 ⟨⟨hP, hD⟩, by decide, by first | (exfalso; omega) | (rw [tcR_no (fun j hj => hno j (by omega))]; unfold cF sC; rw [if_pos rfl, ← hf2_1, ← hf3_1]; (repeat (first | rw [if_pos (by omega)] | rw [if_neg (by omega)])) <;> rfl)⟩
            · have tc_7 : r_3.toInt = 0 := v_eq c_7
              refine lv_bipush (v := 30) hx hb dX12_costOf_82 (by decide) ?_
              refine lv_goto (tgt := 88) hx hb dX12_costOf_84 (by decide) ?_
              refine lv_iadd hx hb dX12_costOf_88 ?_
              refine k_i (y := 69) (by decide) ?_
              exact kl_i (v := 69) hQQ hx hb hr hlocks hS dX12_costOf_89 ⟨⟨hP, hD⟩, by decide, by first | (exfalso; omega) | (rw [tcR_no (fun j hj => hno j (by omega))]; unfold cF sC; rw [if_pos rfl, ← hf2_1, ← hf3_1]; (repeat (first | rw [if_pos (by omega)] | rw [if_neg (by omega)])) <;> rfl)⟩
        · have tc_4 : r_2.toInt = r_3.toInt := v_eq c_4
          refine lv_iconst (v := 4) hx hb dX12_costOf_60 (by decide) ?_
          refine lv_goto (tgt := 66) hx hb dX12_costOf_61 (by decide) ?_
          refine lv_iload_n hx hb dX12_costOf_66 rfl (lv_at hl 1 rfl) ?_
          refine lv_if_ne (tgt := 75) hx hb dX12_costOf_67 (by decide) (fun c_8 => ?_) (fun c_8 => ?_)
          · have tc_8 : ¬ r_2.toInt = 0 := v_ne c_8
            refine lv_iconst (v := 0) hx hb dX12_costOf_75 (by decide) ?_
            refine lv_iadd hx hb dX12_costOf_76 ?_
            refine k_i (y := 4) (by decide) ?_
            refine lv_iload hx hb dX12_costOf_77 (lv_at hl 0 rfl) ?_
            refine lv_if_ne (tgt := 87) hx hb dX12_costOf_79 (by decide) (fun c_9 => ?_) (fun c_9 => ?_)
            · have tc_9 : ¬ r_3.toInt = 0 := v_ne c_9
              refine lv_iconst (v := 0) hx hb dX12_costOf_87 (by decide) ?_
              refine lv_iadd hx hb dX12_costOf_88 ?_
              refine k_i (y := 4) (by decide) ?_
              exact kl_i (v := 4) hQQ hx hb hr hlocks hS dX12_costOf_89 ⟨⟨hP, hD⟩, by decide, by first | (exfalso; omega) | (rw [tcR_no (fun j hj => hno j (by omega))]; unfold cF sC; rw [if_pos rfl, ← hf2_1, ← hf3_1]; (repeat (first | rw [if_pos (by omega)] | rw [if_neg (by omega)])) <;> rfl)⟩
            · have tc_9 : r_3.toInt = 0 := v_eq c_9
              refine lv_bipush (v := 30) hx hb dX12_costOf_82 (by decide) ?_
              refine lv_goto (tgt := 88) hx hb dX12_costOf_84 (by decide) ?_
              refine lv_iadd hx hb dX12_costOf_88 ?_
              refine k_i (y := 34) (by decide) ?_
              exact kl_i (v := 34) hQQ hx hb hr hlocks hS dX12_costOf_89 ⟨⟨hP, hD⟩, by decide, by first | (exfalso; omega) | (rw [tcR_no (fun j hj => hno j (by omega))]; unfold cF sC; rw [if_pos rfl, ← hf2_1, ← hf3_1]; (repeat (first | rw [if_pos (by omega)] | rw [if_neg (by omega)])) <;> rfl)⟩
          · have tc_8 : r_2.toInt = 0 := v_eq c_8
            refine lv_bipush (v := 30) hx hb dX12_costOf_70 (by decide) ?_
            refine lv_goto (tgt := 76) hx hb dX12_costOf_72 (by decide) ?_
            refine lv_iadd hx hb dX12_costOf_76 ?_
            refine k_i (y := 34) (by decide) ?_
            refine lv_iload hx hb dX12_costOf_77 (lv_at hl 0 rfl) ?_
            refine lv_if_ne (tgt := 87) hx hb dX12_costOf_79 (by decide) (fun c_10 => ?_) (fun c_10 => ?_)
            · have tc_10 : ¬ r_3.toInt = 0 := v_ne c_10
              refine lv_iconst (v := 0) hx hb dX12_costOf_87 (by decide) ?_
              refine lv_iadd hx hb dX12_costOf_88 ?_
              refine k_i (y := 34) (by decide) ?_
              exact kl_i (v := 34) hQQ hx hb hr hlocks hS dX12_costOf_89 ⟨⟨hP, hD⟩, by decide, by first | (exfalso; omega) | (rw [tcR_no (fun j hj => hno j (by omega))]; unfold cF sC; rw [if_pos rfl, ← hf2_1, ← hf3_1]; (repeat (first | rw [if_pos (by omega)] | rw [if_neg (by omega)])) <;> rfl)⟩
            · have tc_10 : r_3.toInt = 0 := v_eq c_10
              refine lv_bipush (v := 30) hx hb dX12_costOf_82 (by decide) ?_
              refine lv_goto (tgt := 88) hx hb dX12_costOf_84 (by decide) ?_
              refine lv_iadd hx hb dX12_costOf_88 ?_
              refine k_i (y := 64) (by decide) ?_
              exact kl_i (v := 64) hQQ hx hb hr hlocks hS dX12_costOf_89 ⟨⟨hP, hD⟩, by decide, by first | (exfalso; omega) | (rw [tcR_no (fun j hj => hno j (by omega))]; unfold cF sC; rw [if_pos rfl, ← hf2_1, ← hf3_1]; (repeat (first | rw [if_pos (by omega)] | rw [if_neg (by omega)])) <;> rfl)⟩
      · have tc_1 : k.toInt < zc.toInt := v_nle c_1
        refine lv_aload_n hx hb dX12_costOf_10 rfl (lv_at hl 1 rfl) ?_
        refine va_get (D := (dC, dI)) (ci := 12) (v := .ref x1) (C := RX12) (T := TX12) (N := 40) hx hb hts in_X12 hown hK hP 0 rfl rfl 14 (by decide) (hts (.fieldLink RX12 39 "TextMenderModel" "costX" "[I") (List.mem_of_getElem? (i := 2) rfl)) (fun _ h9 => h9) rfl dX12_costOf_11 ?_
        refine lv_iload_n hx hb dX12_costOf_14 rfl (lv_at hl 0 rfl) ?_
        refine va_iald hx hb hK hP 1 0 rfl rfl (v_in (by omega)) dX12_costOf_15 ?_
        refine lv_topi (fun x_11 ex_11 => ?_)
        refine lv_iload_n hx hb dX12_costOf_16 rfl (lv_at hl 2 rfl) ?_
        refine lv_icmp_ne (tgt := 37) hx hb dX12_costOf_17 (by decide) (fun c_12 => ?_) (fun c_12 => ?_)
        · have tc_12 : ¬ x_11.toInt = x.toInt := v_ne c_12
          have rw12_0 := v_rng x_11
          obtain ⟨x_13, ex_13⟩ : ∃ y : Int32, y = k + 1 := ⟨_, rfl⟩
          have tx_13 : x_13.toInt = k.toInt + 1 := v_addR (l2 := 1) (h2 := 1) ex_13 g_k (by decide) (by decide) (by decide)
          refine lv_iinc (v := x_13) (lv' := [(3, .int x_13), (0, .ref oM), (1, .int x), (2, .int y)]) hx hb dX12_costOf_37 hl (k := 0) rfl (by rw [ex_13]; rfl) (by decide) rfl (fun ls hl => ?_)
          refine lv_goto (tgt := 2) hx hb dX12_costOf_40 (by decide) ?_
          exact ih_2 x_13 _ _ _ (ms_lt hm_2 (by show ((300 - x_13.toInt : Int)) < 300 - k.toInt; omega) (by show (0 : Int) < 300 - k.toInt; omega)) (by show 0 ≤ x_13.toInt ∧ x_13.toInt ≤ 300; omega) (by show x_13.toInt ≤ zc.toInt; omega) (noP_s1 hno ex_11 c_12 (by omega) (by omega)) hP hD hS (lv_sub hl [0, 1, 2, 3] rfl)
        · have tc_12 : x_11.toInt = x.toInt := v_eq c_12
          have rw12_0 := v_rng x_11
          refine lv_aload_n hx hb dX12_costOf_20 rfl (lv_at hl 1 rfl) ?_
          refine va_get (D := (dC, dI)) (ci := 12) (v := .ref x2) (C := RX12) (T := TX12) (N := 40) hx hb hts in_X12 hown hK hP 0 rfl rfl 15 (by decide) (hts (.fieldLink RX12 42 "TextMenderModel" "costY" "[I") (List.mem_of_getElem? (i := 3) rfl)) (fun _ h9 => h9) rfl dX12_costOf_21 ?_
          refine lv_iload_n hx hb dX12_costOf_24 rfl (lv_at hl 0 rfl) ?_
          refine va_iald hx hb hK hP 2 0 rfl rfl (v_in (by omega)) dX12_costOf_25 ?_
          refine lv_topi (fun x_14 ex_14 => ?_)
          refine lv_iload_n hx hb dX12_costOf_26 rfl (lv_at hl 3 rfl) ?_
          refine lv_icmp_ne (tgt := 37) hx hb dX12_costOf_27 (by decide) (fun c_15 => ?_) (fun c_15 => ?_)
          · have tc_15 : ¬ x_14.toInt = y.toInt := v_ne c_15
            have rw15_0 := v_rng x_14
            obtain ⟨x_16, ex_16⟩ : ∃ y : Int32, y = k + 1 := ⟨_, rfl⟩
            have tx_16 : x_16.toInt = k.toInt + 1 := v_addR (l2 := 1) (h2 := 1) ex_16 g_k (by decide) (by decide) (by decide)
            refine lv_iinc (v := x_16) (lv' := [(3, .int x_16), (0, .ref oM), (1, .int x), (2, .int y)]) hx hb dX12_costOf_37 hl (k := 0) rfl (by rw [ex_16]; rfl) (by decide) rfl (fun ls hl => ?_)
            refine lv_goto (tgt := 2) hx hb dX12_costOf_40 (by decide) ?_
            exact ih_2 x_16 _ _ _ (ms_lt hm_2 (by show ((300 - x_16.toInt : Int)) < 300 - k.toInt; omega) (by show (0 : Int) < 300 - k.toInt; omega)) (by show 0 ≤ x_16.toInt ∧ x_16.toInt ≤ 300; omega) (by show x_16.toInt ≤ zc.toInt; omega) (noP_s2 hno ex_14 c_15 (by omega) (by omega)) hP hD hS (lv_sub hl [0, 1, 2, 3] rfl)
          · have tc_15 : x_14.toInt = y.toInt := v_eq c_15
            have rw15_0 := v_rng x_14
            refine lv_aload_n hx hb dX12_costOf_30 rfl (lv_at hl 1 rfl) ?_
            refine va_get (D := (dC, dI)) (ci := 12) (v := .ref x3) (C := RX12) (T := TX12) (N := 40) hx hb hts in_X12 hown hK hP 0 rfl rfl 16 (by decide) (hts (.fieldLink RX12 45 "TextMenderModel" "costV" "[I") (List.mem_of_getElem? (i := 4) rfl)) (fun _ h9 => h9) rfl dX12_costOf_31 ?_
            refine lv_iload_n hx hb dX12_costOf_34 rfl (lv_at hl 0 rfl) ?_
            refine va_iald hx hb hK hP 3 0 rfl rfl (v_in (by omega)) dX12_costOf_35 ?_
            refine lv_topi (fun x_17 ex_17 => ?_)
            have hvr : 0 ≤ x_17.toInt ∧ x_17.toInt ≤ 200 := rg_at hV ex_17
            exact kl_i (v := x_17) hQQ hx hb hr hlocks hS dX12_costOf_36 ⟨⟨hP, hD⟩, by omega, by rw [tcR_of ⟨k.toNatClampNeg, by have c9 := v_clamp (x := k) (by omega); omega, by rw [← ex_11]; exact c_12, by rw [← ex_14]; exact c_15, ex_17.symm, fun j hj => hno j (by have c9 := v_clamp (x := k) (by omega); omega)⟩]; unfold cF; rw [if_neg (v_nn (by omega))]⟩
  exact LOOP_2 _ 0 _ _ _ (ms_s _) (by decide) (by show 0 ≤ zc.toInt; omega) (noP_0 (by decide)) hP hD hS (lv_sub hl [0, 1, 2, 3] rfl)

set_option maxHeartbeats 40000000 in
set_option maxRecDepth 100000 in
theorem f_X12_costOf_ (l : Launch) (dC : Nat → ClassId) (dI : Nat → Nat → Nat) (cI cS : ClassId) (sz : Nat) (oM : Nat) (rw : Nat) (mT : Nat) (mS : Nat) (mX : Nat) (mL : Nat) (mB : Nat) (mD : Nat) (m1 : Nat) (m2 : Nat) (mR : Nat) (x1 : Nat) (x2 : Nat) (x3 : Nat) (mH : Nat) (mY : Nat) (mE : Nat) (mW : Nat) (mO : Nat) (y1 : Nat) (y2 : Nat) (y3 : Nat) (y4 : Nat) (mZ : Nat) (cw : Nat) (zt : Int32) (zp : Int32) (zf : Int32) (zh : Int32) (zr : Int32) (zc : Int32) (zy : Int32) (za : Int32) (zb : Int32) (zs : Int32) (zq : Int32) (zw : Int32) (ze : Int32) (zn : Int32) (zm : Int32) (zl : Int32) (zk : Int32) (zd : Int32) (ec1 : Nat → Int32) (ec2 : Nat → Int32) (ec3 : Nat → Int32) (fr : Nat → Int32) (fo : Int32) (to_ : Int32) (g_zt : 0 ≤ zt.toInt ∧ zt.toInt ≤ 900) (g_zp : 0 ≤ zp.toInt ∧ zp.toInt ≤ 20) (g_zf : 0 ≤ zf.toInt ∧ zf.toInt ≤ 19) (g_zh : 0 ≤ zh.toInt ∧ zh.toInt ≤ 6) (g_zr : 0 ≤ zr.toInt ∧ zr.toInt ≤ 258) (g_zc : 0 ≤ zc.toInt ∧ zc.toInt ≤ 300) (g_zy : 0 ≤ zy.toInt ∧ zy.toInt ≤ 65536) (g_za : 0 ≤ za.toInt ∧ za.toInt ≤ 5) (g_zb : 0 ≤ zb.toInt ∧ zb.toInt ≤ 5) (g_zs : 0 ≤ zs.toInt ∧ zs.toInt ≤ 2000000) (g_zq : -1 ≤ zq.toInt ∧ zq.toInt ≤ 2000000) (g_zn : 0 ≤ zn.toInt ∧ zn.toInt ≤ 2600) (g_zm : 0 ≤ zm.toInt ∧ zm.toInt ≤ 2600) (g_zk : 0 ≤ zk.toInt ∧ zk.toInt ≤ 300) (g_fo : 0 ≤ fo.toInt ∧ fo.toInt ≤ 0) (g_to_ : 0 ≤ to_.toInt ∧ to_.toInt ≤ 300) (hcw : to_.toInt ≤ (cw : Int)) (hcw2 : cw ≤ 6300) (hV : rg 0 200 ec3) (hrow : prg to_.toInt 0 65535 fr) : kMi l yX12_costOf_ wsX12_costOf_ ({ frames := 2, cells := 0, slots := 0, locals := 44 } : Room) [.ref oM, .ref rw, .int fo, .int to_] sz (dC, dI) vwCl [(cI, .int), (cS, .short)] [(oM, .inr (12, [.ref mT, .int zt, .ref mS, .ref mX, .int zp, .int zf, .ref mL, .ref mB, .ref mD, .ref m1, .ref m2, .int zh, .ref mR, .int zr, .ref x1, .ref x2, .ref x3, .int zc, .ref mH, .int zy, .int za, .int zb, .int zs, .int zq, .int zw, .int ze, .ref mY, .int zn, .ref mE, .int zm, .int zl, .ref mW, .int zk, .ref mO, .int zd, .ref y1, .ref y2, .ref y3, .ref y4, .ref mZ])), (x1, .inl (cI, 300, .inl ec1)), (x2, .inl (cI, 300, .inl ec2)), (x3, .inl (cI, 300, .inl ec3)), (rw, .inl (cI, cw, .inl fr))] (fun _ => True) 0 0 (fun (A : Nat → Prop) (r : Int32) (hh9 : Heap) => kPD (dC, dI) vwCl A [(oM, .inr (12, [.ref mT, .int zt, .ref mS, .ref mX, .int zp, .int zf, .ref mL, .ref mB, .ref mD, .ref m1, .ref m2, .int zh, .ref mR, .int zr, .ref x1, .ref x2, .ref x3, .int zc, .ref mH, .int zy, .int za, .int zb, .int zs, .int zq, .int zw, .int ze, .ref mY, .int zn, .ref mE, .int zm, .int zl, .ref mW, .int zk, .ref mO, .int zd, .ref y1, .ref y2, .ref y3, .ref y4, .ref mZ])), (x1, .inl (cI, 300, .inl ec1)), (x2, .inl (cI, 300, .inl ec2)), (x3, .inl (cI, 300, .inl ec3)), (rw, .inl (cI, cw, .inl fr))] hh9 ∧ (0 ≤ r.toInt ∧ r.toInt ≤ 61000) ∧ (r.toInt = cT (tcR zc.toInt ec1 ec2 ec3) to_.toInt fr)) := by
  refine kMi_of (cc := cX12_costOf_) (maxL := 7) (ret := (some .int)) (lv := [(0, .ref oM), (1, .ref rw), (2, .int fo), (3, .int to_)]) (by decide +kernel) rfl rfl (Nat.le_of_ble_eq_true rfl) ?_
  intro p e s m below meth c A QQ ls hx hb hr hts hml hown hlocks hA hQQ hK hX hP hD hS hl
  have hown : s.vm.findClass RX12 = some m.cls := hown
  have hcf := k_cf hx hb hml hown hts
  replace g_zt := hid g_zt
  replace g_zp := hid g_zp
  replace g_zf := hid g_zf
  replace g_zh := hid g_zh
  replace g_zr := hid g_zr
  replace g_zy := hid g_zy
  replace g_za := hid g_za
  replace g_zb := hid g_zb
  replace g_zs := hid g_zs
  replace g_zq := hid g_zq
  replace g_zn := hid g_zn
  replace g_zm := hid g_zm
  replace g_zk := hid g_zk
  refine lv_iconst (v := 0) hx hb dX12_costOf__0 (by decide) ?_
  refine lv_istore (lv' := [(4, .int 0), (0, .ref oM), (1, .ref rw), (2, .int fo), (3, .int to_)]) hx hb dX12_costOf__1 hl (by decide) rfl (fun ls hl => ?_)
  refine lv_bipush (v := 32) hx hb dX12_costOf__3 (by decide) ?_
  refine lv_istore (lv' := [(5, .int 32), (4, .int 0), (0, .ref oM), (1, .ref rw), (2, .int fo), (3, .int to_)]) hx hb dX12_costOf__5 hl (by decide) rfl (fun ls hl => ?_)
  refine lv_iload_n hx hb dX12_costOf__7 rfl (lv_at hl 4 rfl) ?_
  refine lv_istore (lv' := [(6, .int fo), (5, .int 32), (4, .int 0), (0, .ref oM), (1, .ref rw), (2, .int fo), (3, .int to_)]) hx hb dX12_costOf__8 hl (by decide) rfl (fun ls hl => ?_)
  have LOOP_10 : ∀ (k_10 : Nat) (su : Int32) (be : Int32) (k : Int32) (H : Heap) (locs : List Loc) (ls : Array Slot), MSd (300 - k.toInt : Int) k_10 → (0 ≤ su.toInt ∧ su.toInt ≤ 60200) → (0 ≤ be.toInt ∧ be.toInt ≤ 65535) → (0 ≤ k.toInt ∧ k.toInt ≤ 300) → (k.toInt ≤ to_.toInt) → (su.toInt ≤ 200 * k.toInt) → (su.toInt = cs (tcR zc.toInt ec1 ec2 ec3) fr k.toNatClampNeg) → (be = pv fr k.toNatClampNeg) → va_P (dC, dI) vwCl [(oM, .inr (12, [.ref mT, .int zt, .ref mS, .ref mX, .int zp, .int zf, .ref mL, .ref mB, .ref mD, .ref m1, .ref m2, .int zh, .ref mR, .int zr, .ref x1, .ref x2, .ref x3, .int zc, .ref mH, .int zy, .int za, .int zb, .int zs, .int zq, .int zw, .int ze, .ref mY, .int zn, .ref mE, .int zm, .int zl, .ref mW, .int zk, .ref mO, .int zd, .ref y1, .ref y2, .ref y3, .ref y4, .ref mZ])), (x1, .inl (cI, 300, .inl ec1)), (x2, .inl (cI, 300, .inl ec2)), (x3, .inl (cI, 300, .inl ec3)), (rw, .inl (cI, cw, .inl fr))] H → va_D A [(oM, .inr (12, [.ref mT, .int zt, .ref mS, .ref mX, .int zp, .int zf, .ref mL, .ref mB, .ref mD, .ref m1, .ref m2, .int zh, .ref mR, .int zr, .ref x1, .ref x2, .ref x3, .int zc, .ref mH, .int zy, .int za, .int zb, .int zs, .int zq, .int zw, .int ze, .ref mY, .int zn, .ref mE, .int zm, .int zl, .ref mW, .int zk, .ref mO, .int zd, .ref y1, .ref y2, .ref y3, .ref y4, .ref mZ])), (x1, .inl (cI, 300, .inl ec1)), (x2, .inl (cI, 300, .inl ec2)), (x3, .inl (cI, 300, .inl ec3)), (rw, .inl (cI, cw, .inl fr))] → va_S A s.heap H locs → lv_has ls 7 [(6, .int k), (5, .int be), (4, .int su), (0, .ref oM), (1, .ref rw), (2, .int fo), (3, .int to_)] → W p l e (headSpec wsX12_costOf_ ({ frames := 2, cells := 0, slots := 0, locals := 44 } : Room)).room s m ([.ref oM, .ref rw, .int fo, .int to_] : List Value).toArray below meth c H locs 0 0 (MQ below QQ ([.ref oM, .ref rw, .int fo, .int to_] : List Value).toArray s 0 0 A) (F0 m 10 ls []) := by
    clear hP hD hS hl
    try (clear g_fo)
    intro k_10
    induction k_10 with
    | zero =>
      intro su be k H locs ls hm_10 g_su g_be g_k hkt hs2 hsu hbe hP hD hS hl
      exact ms_0 hm_10
    | succ k_10 ih_10 =>
      intro su be k H locs ls hm_10 g_su g_be g_k hkt hs2 hsu hbe hP hD hS hl
      refine lv_iload hx hb dX12_costOf__10 (lv_at hl 0 rfl) ?_
      refine lv_iload_n hx hb dX12_costOf__12 rfl (lv_at hl 6 rfl) ?_
      refine lv_icmp_ge (tgt := 43) hx hb dX12_costOf__13 (by decide) (fun c_1 => ?_) (fun c_1 => ?_)
      · have tc_1 : to_.toInt ≤ k.toInt := v_le c_1
        refine lv_iload hx hb dX12_costOf__43 (lv_at hl 2 rfl) ?_
        refine lv_aload_n hx hb dX12_costOf__45 rfl (lv_at hl 3 rfl) ?_
        refine lv_iload hx hb dX12_costOf__46 (lv_at hl 1 rfl) ?_
        refine lv_bipush (v := 32) hx hb dX12_costOf__48 (by decide) ?_
        refine kV_i (rest := [.int su]) (q0 := 0) (ci := 12) hcf (f_X12_costOf l dC dI cI cS H.size oM mT mS mX mL mB mD m1 m2 mR x1 x2 x3 mH mY mE mW mO y1 y2 y3 y4 mZ zt zp zf zh zr zc zy za zb zs zq zw ze zn zm zl zk zd ec1 ec2 ec3 be 32 (g_zt) (g_zp) (g_zf) (g_zh) (g_zr) (g_zc) (g_zy) (g_za) (g_zb) (g_zs) (g_zq) (g_zn) (g_zm) (g_zk) (g_be) (by decide) (hV)) kc_X12_costOf gX12_costOf__X12_costOf rfl rfl rfl ⟨Nat.le_of_ble_eq_true rfl, Nat.le_of_ble_eq_true rfl⟩ kX_t hK hP hD hS hA [0, 1, 2, 3] [4] rfl (by decide +kernel) rfl rfl rfl hl rfl (Nat.le_of_ble_eq_true rfl) dX12_costOf__50 ⟨Nat.le_of_ble_eq_true rfl, Nat.le_of_ble_eq_true rfl⟩ (fun r_2 H locs hB hJ hSn => ?_)
        obtain ⟨⟨hP1, hD1⟩, hf2_0, hf2_1⟩ := hB
        obtain ⟨hPn, hDn⟩ := hJ _ hP1 hD1 [(rw, .inl (cI, cw, .inl fr)), (oM, .inr (12, [.ref mT, .int zt, .ref mS, .ref mX, .int zp, .int zf, .ref mL, .ref mB, .ref mD, .ref m1, .ref m2, .int zh, .ref mR, .int zr, .ref x1, .ref x2, .ref x3, .int zc, .ref mH, .int zy, .int za, .int zb, .int zs, .int zq, .int zw, .int ze, .ref mY, .int zn, .ref mE, .int zm, .int zl, .ref mW, .int zk, .ref mO, .int zd, .ref y1, .ref y2, .ref y3, .ref y4, .ref mZ])), (x1, .inl (cI, 300, .inl ec1)), (x2, .inl (cI, 300, .inl ec2)), (x3, .inl (cI, 300, .inl ec3))] rfl
        clear hP hD hS hJ hP1 hD1
        have hP := hPn
        have hD := hDn
        have hS := hSn
        clear hPn hDn hSn
        refine lv_iadd hx hb dX12_costOf__53 ?_
        refine lv_topi (fun x_3 ex_3 => ?_)
        have tx_3 : x_3.toInt = su.toInt + r_2.toInt := v_addR ex_3 g_su hf2_0 (by decide) (by decide)
        exact kl_i (v := x_3) hQQ hx hb hr hlocks hS dX12_costOf__54 ⟨kPD_sub hP hD [1, 2, 3, 4, 0] (by decide +kernel) rfl, v_rr (v_sumR (l := 0) (h := 60400) tx_3 g_su hf2_0 (by decide) (by decide)) (by decide) (by decide), cT_of hsu hbe hf2_1 (by omega) (by omega) (by omega)⟩
      · have tc_1 : k.toInt < to_.toInt := v_nle c_1
        refine lv_iload hx hb dX12_costOf__16 (lv_at hl 2 rfl) ?_
        refine lv_aload_n hx hb dX12_costOf__18 rfl (lv_at hl 3 rfl) ?_
        refine lv_iload hx hb dX12_costOf__19 (lv_at hl 1 rfl) ?_
        refine lv_aload_n hx hb dX12_costOf__21 rfl (lv_at hl 4 rfl) ?_
        refine lv_iload hx hb dX12_costOf__22 (lv_at hl 0 rfl) ?_
        refine va_iald hx hb hK hP 4 0 rfl rfl (v_in (by omega)) dX12_costOf__24 ?_
        refine lv_topi (fun x_4 ex_4 => ?_)
        have tp_x_4 := prg_at hrow ex_4 (by omega) (by omega)
        refine kV_i (rest := [.int su]) (q0 := 0) (ci := 12) hcf (f_X12_costOf l dC dI cI cS H.size oM mT mS mX mL mB mD m1 m2 mR x1 x2 x3 mH mY mE mW mO y1 y2 y3 y4 mZ zt zp zf zh zr zc zy za zb zs zq zw ze zn zm zl zk zd ec1 ec2 ec3 be x_4 (g_zt) (g_zp) (g_zf) (g_zh) (g_zr) (g_zc) (g_zy) (g_za) (g_zb) (g_zs) (g_zq) (g_zn) (g_zm) (g_zk) (g_be) (by omega) (hV)) kc_X12_costOf gX12_costOf__X12_costOf rfl rfl rfl ⟨Nat.le_of_ble_eq_true rfl, Nat.le_of_ble_eq_true rfl⟩ kX_t hK hP hD hS hA [0, 1, 2, 3] [4] rfl (by decide +kernel) rfl rfl rfl hl rfl (Nat.le_of_ble_eq_true rfl) dX12_costOf__25 ⟨Nat.le_of_ble_eq_true rfl, Nat.le_of_ble_eq_true rfl⟩ (fun r_5 H locs hB hJ hSn => ?_)
        obtain ⟨⟨hP1, hD1⟩, hf5_0, hf5_1⟩ := hB
        obtain ⟨hPn, hDn⟩ := hJ _ hP1 hD1 [(rw, .inl (cI, cw, .inl fr)), (oM, .inr (12, [.ref mT, .int zt, .ref mS, .ref mX, .int zp, .int zf, .ref mL, .ref mB, .ref mD, .ref m1, .ref m2, .int zh, .ref mR, .int zr, .ref x1, .ref x2, .ref x3, .int zc, .ref mH, .int zy, .int za, .int zb, .int zs, .int zq, .int zw, .int ze, .ref mY, .int zn, .ref mE, .int zm, .int zl, .ref mW, .int zk, .ref mO, .int zd, .ref y1, .ref y2, .ref y3, .ref y4, .ref mZ])), (x1, .inl (cI, 300, .inl ec1)), (x2, .inl (cI, 300, .inl ec2)), (x3, .inl (cI, 300, .inl ec3))] rfl
        clear hP hD hS hJ hP1 hD1
        have hP := hPn
        have hD := hDn
        have hS := hSn
        clear hPn hDn hSn
        refine lv_iadd hx hb dX12_costOf__28 ?_
        refine lv_topi (fun x_6 ex_6 => ?_)
        have tx_6 : x_6.toInt = su.toInt + r_5.toInt := v_addR ex_6 g_su hf5_0 (by decide) (by decide)
        refine lv_istore (lv' := [(4, .int x_6), (6, .int k), (5, .int be), (0, .ref oM), (1, .ref rw), (2, .int fo), (3, .int to_)]) hx hb dX12_costOf__29 hl (by decide) rfl (fun ls hl => ?_)
        refine lv_aload_n hx hb dX12_costOf__31 rfl (lv_at hl 4 rfl) ?_
        refine lv_iload hx hb dX12_costOf__32 (lv_at hl 1 rfl) ?_
        refine va_iald hx hb hK hP 0 0 rfl rfl (v_in (by omega)) dX12_costOf__34 ?_
        refine k_i (y := x_4) ex_4.symm ?_
        refine lv_istore (lv' := [(5, .int x_4), (4, .int x_6), (6, .int k), (0, .ref oM), (1, .ref rw), (2, .int fo), (3, .int to_)]) hx hb dX12_costOf__35 hl (by decide) rfl (fun ls hl => ?_)
        obtain ⟨x_7, ex_7⟩ : ∃ y : Int32, y = k + 1 := ⟨_, rfl⟩
        have tx_7 : x_7.toInt = k.toInt + 1 := v_addR (l2 := 1) (h2 := 1) ex_7 g_k (by decide) (by decide) (by decide)
        refine lv_iinc (v := x_7) (lv' := [(6, .int x_7), (5, .int x_4), (4, .int x_6), (0, .ref oM), (1, .ref rw), (2, .int fo), (3, .int to_)]) hx hb dX12_costOf__37 hl (k := 2) rfl (by rw [ex_7]; rfl) (by decide) rfl (fun ls hl => ?_)
        refine lv_goto (tgt := 10) hx hb dX12_costOf__40 (by decide) ?_
        exact ih_10 x_6 x_4 x_7 _ _ _ (ms_lt hm_10 (by show ((300 - x_7.toInt : Int)) < 300 - k.toInt; omega) (by show (0 : Int) < 300 - k.toInt; omega)) (by show 0 ≤ x_6.toInt ∧ x_6.toInt ≤ 60200; omega) (by show 0 ≤ x_4.toInt ∧ x_4.toInt ≤ 65535; omega) (by show 0 ≤ x_7.toInt ∧ x_7.toInt ≤ 300; omega) (by show x_7.toInt ≤ to_.toInt; omega) (by show x_6.toInt ≤ 200 * x_7.toInt; omega) ((cs_s hsu hbe ex_4 hf5_1 (by omega) (by omega) (by omega)).1) ((cs_s hsu hbe ex_4 hf5_1 (by omega) (by omega) (by omega)).2) (hP.sub [1, 2, 3, 4, 0] rfl) (hD.sub [1, 2, 3, 4, 0] (by decide +kernel) rfl) hS (lv_sub hl [0, 1, 2, 3, 4, 5, 6] rfl)
  exact LOOP_10 _ 0 32 fo _ _ _ (ms_s _) (by decide) (by decide) (v_rr g_fo (by decide) (by decide)) (by show fo.toInt ≤ to_.toInt; omega) (by show 0 ≤ 200 * fo.toInt; omega) (by rw [ix_eq (x := fo) (N := 0) (by omega)]; rfl) (by rw [ix_eq (x := fo) (N := 0) (by omega)]; rfl) hP hD hS (lv_sub hl [0, 1, 2, 3, 4, 5, 6] rfl)

end

/-! 59n.a.rows -/
section
set_option maxRecDepth 100000 in
theorem dA271_cX7_passRoughly : kDec cX7_passRoughly [(0, .aload_n 0, 1), (1, .iload_n 1, 1), (2, .aload_n 3, 1), (3, .invokevirtual 65, 3), (6, .ifCond .eq 16, 3), (22, .iconst (-1), 1), (23, .ireturn, 1), (9, .aload_n 0, 1), (10, .getfield 14, 3), (13, .invokevirtual 31, 3), (16, .sipush 900, 3), (19, .if_icmp .le 5, 3), (24, .aload 4, 2), (26, .iconst 0, 1), (27, .invokevirtual 28, 3), (30, .iconst 0, 1), (31, .istore 5, 2), (33, .iconst 0, 1), (34, .istore 6, 2), (36, .iload 6, 2), (38, .aload_n 0, 1), (39, .getfield 14, 3), (42, .invokevirtual 31, 3), (45, .if_icmp .ge 95, 3)] = true := by decide +kernel
theorem dX7_passRoughly_0 : decode cX7_passRoughly 0 = .ok (.aload_n 0, 1) := kDec_at dA271_cX7_passRoughly 0 rfl
theorem dX7_passRoughly_1 : decode cX7_passRoughly 1 = .ok (.iload_n 1, 1) := kDec_at dA271_cX7_passRoughly 1 rfl
theorem dX7_passRoughly_2 : decode cX7_passRoughly 2 = .ok (.aload_n 3, 1) := kDec_at dA271_cX7_passRoughly 2 rfl
theorem dX7_passRoughly_3 : decode cX7_passRoughly 3 = .ok (.invokevirtual 65, 3) := kDec_at dA271_cX7_passRoughly 3 rfl
theorem dX7_passRoughly_6 : decode cX7_passRoughly 6 = .ok (.ifCond .eq 16, 3) := kDec_at dA271_cX7_passRoughly 4 rfl
theorem dX7_passRoughly_22 : decode cX7_passRoughly 22 = .ok (.iconst (-1), 1) := kDec_at dA271_cX7_passRoughly 5 rfl
theorem dX7_passRoughly_23 : decode cX7_passRoughly 23 = .ok (.ireturn, 1) := kDec_at dA271_cX7_passRoughly 6 rfl
theorem dX7_passRoughly_9 : decode cX7_passRoughly 9 = .ok (.aload_n 0, 1) := kDec_at dA271_cX7_passRoughly 7 rfl
theorem dX7_passRoughly_10 : decode cX7_passRoughly 10 = .ok (.getfield 14, 3) := kDec_at dA271_cX7_passRoughly 8 rfl
theorem dX7_passRoughly_13 : decode cX7_passRoughly 13 = .ok (.invokevirtual 31, 3) := kDec_at dA271_cX7_passRoughly 9 rfl
theorem dX7_passRoughly_16 : decode cX7_passRoughly 16 = .ok (.sipush 900, 3) := kDec_at dA271_cX7_passRoughly 10 rfl
theorem dX7_passRoughly_19 : decode cX7_passRoughly 19 = .ok (.if_icmp .le 5, 3) := kDec_at dA271_cX7_passRoughly 11 rfl
theorem dX7_passRoughly_24 : decode cX7_passRoughly 24 = .ok (.aload 4, 2) := kDec_at dA271_cX7_passRoughly 12 rfl
theorem dX7_passRoughly_26 : decode cX7_passRoughly 26 = .ok (.iconst 0, 1) := kDec_at dA271_cX7_passRoughly 13 rfl
theorem dX7_passRoughly_27 : decode cX7_passRoughly 27 = .ok (.invokevirtual 28, 3) := kDec_at dA271_cX7_passRoughly 14 rfl
theorem dX7_passRoughly_30 : decode cX7_passRoughly 30 = .ok (.iconst 0, 1) := kDec_at dA271_cX7_passRoughly 15 rfl
theorem dX7_passRoughly_31 : decode cX7_passRoughly 31 = .ok (.istore 5, 2) := kDec_at dA271_cX7_passRoughly 16 rfl
theorem dX7_passRoughly_33 : decode cX7_passRoughly 33 = .ok (.iconst 0, 1) := kDec_at dA271_cX7_passRoughly 17 rfl
theorem dX7_passRoughly_34 : decode cX7_passRoughly 34 = .ok (.istore 6, 2) := kDec_at dA271_cX7_passRoughly 18 rfl
theorem dX7_passRoughly_36 : decode cX7_passRoughly 36 = .ok (.iload 6, 2) := kDec_at dA271_cX7_passRoughly 19 rfl
theorem dX7_passRoughly_38 : decode cX7_passRoughly 38 = .ok (.aload_n 0, 1) := kDec_at dA271_cX7_passRoughly 20 rfl
theorem dX7_passRoughly_39 : decode cX7_passRoughly 39 = .ok (.getfield 14, 3) := kDec_at dA271_cX7_passRoughly 21 rfl
theorem dX7_passRoughly_42 : decode cX7_passRoughly 42 = .ok (.invokevirtual 31, 3) := kDec_at dA271_cX7_passRoughly 22 rfl
theorem dX7_passRoughly_45 : decode cX7_passRoughly 45 = .ok (.if_icmp .ge 95, 3) := kDec_at dA271_cX7_passRoughly 23 rfl
set_option maxRecDepth 20000 in
theorem ggX7_passRoughly_X7_write : GoodIn wsX7_passRoughly wsX7_write := goodIn_r _ [12, 13, 1, 2, 14, 15, 16, 17, 18, 19, 20, 21, 22, 23, 24, 25, 26, 27, 28, 29, 30, 31, 32, 33, 34, 35, 36, 37, 38, 39, 40, 41, 42, 43, 44, 45, 46, 47, 48, 49, 50, 51, 52, 53, 54, 55, 56, 57, 58, 59, 60, 61, 62, 63, 64, 101, 102, 103, 104, 105, 106, 107, 108, 109, 110, 111] rfl (by decide +kernel)
set_option maxRecDepth 20000 in
theorem gX7_passRoughly_X7_write : GoodIn wsX7_passRoughly (wsV RX7 65 RX7 yX7_write wsX7_write) := goodIn_app (goodIn_r _ [8, 9, 10, 11] rfl (by decide +kernel)) ggX7_passRoughly_X7_write
set_option maxRecDepth 20000 in
theorem ggX7_passRoughly_X5_length : GoodIn wsX7_passRoughly wsX5_length := goodIn_r _ [23, 19, 104, 105] rfl (by decide +kernel)
set_option maxRecDepth 20000 in
theorem gX7_passRoughly_X5_length : GoodIn wsX7_passRoughly (wsV RX7 31 RX5 yX5_length wsX5_length) := goodIn_app (goodIn_r _ [20, 21, 22, 17] rfl (by decide +kernel)) ggX7_passRoughly_X5_length
set_option maxRecDepth 20000 in
theorem ggX7_passRoughly_X5_cut : GoodIn wsX7_passRoughly wsX5_cut := goodIn_r _ [18, 19, 104, 105] rfl (by decide +kernel)
set_option maxRecDepth 20000 in
theorem gX7_passRoughly_X5_cut : GoodIn wsX7_passRoughly (wsV RX7 28 RX5 yX5_cut wsX5_cut) := goodIn_app (goodIn_r _ [14, 15, 16, 17] rfl (by decide +kernel)) ggX7_passRoughly_X5_cut
set_option maxRecDepth 100000 in
theorem dA272_cX7_passRoughly : kDec cX7_passRoughly [(140, .iload 5, 2), (142, .ireturn, 1), (48, .aload_n 0, 1), (49, .getfield 20, 3), (52, .iload_n 2, 1), (53, .aload_n 0, 1), (54, .getfield 14, 3), (57, .iload 6, 2), (59, .aload_n 0, 1), (60, .getfield 14, 3), (63, .invokevirtual 31, 3), (66, .invokevirtual 45, 3), (69, .istore 7, 2), (71, .aload 4, 2), (73, .iload 7, 2), (75, .iconst (-1), 1), (76, .if_icmp .ne 8, 3), (84, .iload 7, 2), (86, .invokestatic 49, 3), (89, .invokevirtual 52, 3), (92, .ifCond .ne 5, 3), (97, .iload 5, 2), (99, .iload 7, 2), (101, .iconst (-1), 1)] = true := by decide +kernel
theorem dX7_passRoughly_140 : decode cX7_passRoughly 140 = .ok (.iload 5, 2) := kDec_at dA272_cX7_passRoughly 0 rfl
theorem dX7_passRoughly_142 : decode cX7_passRoughly 142 = .ok (.ireturn, 1) := kDec_at dA272_cX7_passRoughly 1 rfl
theorem dX7_passRoughly_48 : decode cX7_passRoughly 48 = .ok (.aload_n 0, 1) := kDec_at dA272_cX7_passRoughly 2 rfl
theorem dX7_passRoughly_49 : decode cX7_passRoughly 49 = .ok (.getfield 20, 3) := kDec_at dA272_cX7_passRoughly 3 rfl
theorem dX7_passRoughly_52 : decode cX7_passRoughly 52 = .ok (.iload_n 2, 1) := kDec_at dA272_cX7_passRoughly 4 rfl
theorem dX7_passRoughly_53 : decode cX7_passRoughly 53 = .ok (.aload_n 0, 1) := kDec_at dA272_cX7_passRoughly 5 rfl
theorem dX7_passRoughly_54 : decode cX7_passRoughly 54 = .ok (.getfield 14, 3) := kDec_at dA272_cX7_passRoughly 6 rfl
theorem dX7_passRoughly_57 : decode cX7_passRoughly 57 = .ok (.iload 6, 2) := kDec_at dA272_cX7_passRoughly 7 rfl
theorem dX7_passRoughly_59 : decode cX7_passRoughly 59 = .ok (.aload_n 0, 1) := kDec_at dA272_cX7_passRoughly 8 rfl
theorem dX7_passRoughly_60 : decode cX7_passRoughly 60 = .ok (.getfield 14, 3) := kDec_at dA272_cX7_passRoughly 9 rfl
theorem dX7_passRoughly_63 : decode cX7_passRoughly 63 = .ok (.invokevirtual 31, 3) := kDec_at dA272_cX7_passRoughly 10 rfl
theorem dX7_passRoughly_66 : decode cX7_passRoughly 66 = .ok (.invokevirtual 45, 3) := kDec_at dA272_cX7_passRoughly 11 rfl
theorem dX7_passRoughly_69 : decode cX7_passRoughly 69 = .ok (.istore 7, 2) := kDec_at dA272_cX7_passRoughly 12 rfl
theorem dX7_passRoughly_71 : decode cX7_passRoughly 71 = .ok (.aload 4, 2) := kDec_at dA272_cX7_passRoughly 13 rfl
theorem dX7_passRoughly_73 : decode cX7_passRoughly 73 = .ok (.iload 7, 2) := kDec_at dA272_cX7_passRoughly 14 rfl
theorem dX7_passRoughly_75 : decode cX7_passRoughly 75 = .ok (.iconst (-1), 1) := kDec_at dA272_cX7_passRoughly 15 rfl
theorem dX7_passRoughly_76 : decode cX7_passRoughly 76 = .ok (.if_icmp .ne 8, 3) := kDec_at dA272_cX7_passRoughly 16 rfl
theorem dX7_passRoughly_84 : decode cX7_passRoughly 84 = .ok (.iload 7, 2) := kDec_at dA272_cX7_passRoughly 17 rfl
theorem dX7_passRoughly_86 : decode cX7_passRoughly 86 = .ok (.invokestatic 49, 3) := kDec_at dA272_cX7_passRoughly 18 rfl
theorem dX7_passRoughly_89 : decode cX7_passRoughly 89 = .ok (.invokevirtual 52, 3) := kDec_at dA272_cX7_passRoughly 19 rfl
theorem dX7_passRoughly_92 : decode cX7_passRoughly 92 = .ok (.ifCond .ne 5, 3) := kDec_at dA272_cX7_passRoughly 20 rfl
theorem dX7_passRoughly_97 : decode cX7_passRoughly 97 = .ok (.iload 5, 2) := kDec_at dA272_cX7_passRoughly 21 rfl
theorem dX7_passRoughly_99 : decode cX7_passRoughly 99 = .ok (.iload 7, 2) := kDec_at dA272_cX7_passRoughly 22 rfl
theorem dX7_passRoughly_101 : decode cX7_passRoughly 101 = .ok (.iconst (-1), 1) := kDec_at dA272_cX7_passRoughly 23 rfl
set_option maxRecDepth 20000 in
theorem ggX7_passRoughly_X2_decode : GoodIn wsX7_passRoughly wsX2_decode := goodIn_r _ [68, 69, 25, 26, 17, 27, 19, 28, 70, 71, 72, 32, 73, 47, 48, 49, 50, 51, 52, 74, 75, 76, 56, 77, 78, 79, 80, 81, 82, 83, 84, 85, 86, 87, 88, 89, 90, 91, 92, 93, 41, 42, 43, 104, 105, 106, 107, 108, 109, 110, 111] rfl (by decide +kernel)
set_option maxRecDepth 20000 in
theorem gX7_passRoughly_X2_decode : GoodIn wsX7_passRoughly (wsV RX7 45 RX2 yX2_decode wsX2_decode) := goodIn_app (goodIn_r _ [65, 66, 67, 32] rfl (by decide +kernel)) ggX7_passRoughly_X2_decode
set_option maxRecDepth 20000 in
theorem ggX7_passRoughly_X2_letterIn : GoodIn wsX7_passRoughly wsX2_letterIn := goodIn_r _ [96] rfl (by decide +kernel)
set_option maxRecDepth 20000 in
theorem gX7_passRoughly_X2_letterIn : GoodIn wsX7_passRoughly (va_wsS RX7 49 yX2_letterIn wsX2_letterIn) := goodIn_app (goodIn_r _ [94, 95, 32] rfl (by decide +kernel)) ggX7_passRoughly_X2_letterIn
set_option maxRecDepth 20000 in
theorem ggX7_passRoughly_X5_add : GoodIn wsX7_passRoughly wsX5_add := goodIn_r _ [37, 19, 28, 104, 105] rfl (by decide +kernel)
set_option maxRecDepth 20000 in
theorem gX7_passRoughly_X5_add : GoodIn wsX7_passRoughly (wsV RX7 52 RX5 yX5_add wsX5_add) := goodIn_app (goodIn_r _ [97, 35, 36, 17] rfl (by decide +kernel)) ggX7_passRoughly_X5_add
set_option maxRecDepth 100000 in
theorem dA273_cX7_passRoughly : kDec cX7_passRoughly [(102, .if_icmp .ne 7, 3), (109, .iconst 0, 1), (110, .iadd, 1), (111, .istore 5, 2), (113, .iload 6, 2), (115, .iload 7, 2), (117, .iconst (-1), 1), (118, .if_icmp .ne 7, 3), (125, .iconst 1, 1), (126, .iload 7, 2), (128, .invokestatic 56, 3), (131, .invokestatic 59, 3), (134, .iadd, 1), (135, .istore 6, 2), (137, .goto (-101), 3), (95, .iconst (-1), 1), (96, .ireturn, 1), (79, .ldc 73, 2), (81, .goto 8, 3), (105, .iconst 1, 1), (106, .goto 4, 3), (121, .iconst 1, 1), (122, .goto 12, 3)] = true := by decide +kernel
theorem dX7_passRoughly_102 : decode cX7_passRoughly 102 = .ok (.if_icmp .ne 7, 3) := kDec_at dA273_cX7_passRoughly 0 rfl
theorem dX7_passRoughly_109 : decode cX7_passRoughly 109 = .ok (.iconst 0, 1) := kDec_at dA273_cX7_passRoughly 1 rfl
theorem dX7_passRoughly_110 : decode cX7_passRoughly 110 = .ok (.iadd, 1) := kDec_at dA273_cX7_passRoughly 2 rfl
theorem dX7_passRoughly_111 : decode cX7_passRoughly 111 = .ok (.istore 5, 2) := kDec_at dA273_cX7_passRoughly 3 rfl
theorem dX7_passRoughly_113 : decode cX7_passRoughly 113 = .ok (.iload 6, 2) := kDec_at dA273_cX7_passRoughly 4 rfl
theorem dX7_passRoughly_115 : decode cX7_passRoughly 115 = .ok (.iload 7, 2) := kDec_at dA273_cX7_passRoughly 5 rfl
theorem dX7_passRoughly_117 : decode cX7_passRoughly 117 = .ok (.iconst (-1), 1) := kDec_at dA273_cX7_passRoughly 6 rfl
theorem dX7_passRoughly_118 : decode cX7_passRoughly 118 = .ok (.if_icmp .ne 7, 3) := kDec_at dA273_cX7_passRoughly 7 rfl
theorem dX7_passRoughly_125 : decode cX7_passRoughly 125 = .ok (.iconst 1, 1) := kDec_at dA273_cX7_passRoughly 8 rfl
theorem dX7_passRoughly_126 : decode cX7_passRoughly 126 = .ok (.iload 7, 2) := kDec_at dA273_cX7_passRoughly 9 rfl
theorem dX7_passRoughly_128 : decode cX7_passRoughly 128 = .ok (.invokestatic 56, 3) := kDec_at dA273_cX7_passRoughly 10 rfl
theorem dX7_passRoughly_131 : decode cX7_passRoughly 131 = .ok (.invokestatic 59, 3) := kDec_at dA273_cX7_passRoughly 11 rfl
theorem dX7_passRoughly_134 : decode cX7_passRoughly 134 = .ok (.iadd, 1) := kDec_at dA273_cX7_passRoughly 12 rfl
theorem dX7_passRoughly_135 : decode cX7_passRoughly 135 = .ok (.istore 6, 2) := kDec_at dA273_cX7_passRoughly 13 rfl
theorem dX7_passRoughly_137 : decode cX7_passRoughly 137 = .ok (.goto (-101), 3) := kDec_at dA273_cX7_passRoughly 14 rfl
theorem dX7_passRoughly_95 : decode cX7_passRoughly 95 = .ok (.iconst (-1), 1) := kDec_at dA273_cX7_passRoughly 15 rfl
theorem dX7_passRoughly_96 : decode cX7_passRoughly 96 = .ok (.ireturn, 1) := kDec_at dA273_cX7_passRoughly 16 rfl
theorem dX7_passRoughly_79 : decode cX7_passRoughly 79 = .ok (.ldc 73, 2) := kDec_at dA273_cX7_passRoughly 17 rfl
theorem dX7_passRoughly_81 : decode cX7_passRoughly 81 = .ok (.goto 8, 3) := kDec_at dA273_cX7_passRoughly 18 rfl
theorem dX7_passRoughly_105 : decode cX7_passRoughly 105 = .ok (.iconst 1, 1) := kDec_at dA273_cX7_passRoughly 19 rfl
theorem dX7_passRoughly_106 : decode cX7_passRoughly 106 = .ok (.goto 4, 3) := kDec_at dA273_cX7_passRoughly 20 rfl
theorem dX7_passRoughly_121 : decode cX7_passRoughly 121 = .ok (.iconst 1, 1) := kDec_at dA273_cX7_passRoughly 21 rfl
theorem dX7_passRoughly_122 : decode cX7_passRoughly 122 = .ok (.goto 12, 3) := kDec_at dA273_cX7_passRoughly 22 rfl
set_option maxRecDepth 20000 in
theorem ggX7_passRoughly_X2_bytesIn : GoodIn wsX7_passRoughly wsX2_bytesIn := goodIn_r _ [100] rfl (by decide +kernel)
set_option maxRecDepth 20000 in
theorem gX7_passRoughly_X2_bytesIn : GoodIn wsX7_passRoughly (va_wsS RX7 56 yX2_bytesIn wsX2_bytesIn) := goodIn_app (goodIn_r _ [98, 99, 32] rfl (by decide +kernel)) ggX7_passRoughly_X2_bytesIn
set_option maxRecDepth 100000 in
theorem dA274_cX11_rough : kDec cX11_rough [(0, .aload_n 0, 1), (1, .iconst (-1), 1), (2, .putfield 90, 3), (5, .iload_n 1, 1), (6, .invokestatic 117, 3), (9, .ifCond .eq 10, 3), (19, .iconst (-1), 1), (20, .ireturn, 1), (12, .iload_n 2, 1), (13, .invokestatic 117, 3), (16, .ifCond .ne 5, 3), (21, .aload_n 0, 1), (22, .getfield 44, 3), (25, .iload_n 1, 1), (26, .iload_n 2, 1), (27, .aload_n 0, 1), (28, .getfield 34, 3), (31, .aload_n 0, 1), (32, .getfield 37, 3), (35, .invokevirtual 181, 3), (38, .istore_n 3, 1), (39, .aload_n 0, 1), (40, .aload_n 0, 1), (41, .getfield 44, 3)] = true := by decide +kernel
theorem dX11_rough_0 : decode cX11_rough 0 = .ok (.aload_n 0, 1) := kDec_at dA274_cX11_rough 0 rfl
theorem dX11_rough_1 : decode cX11_rough 1 = .ok (.iconst (-1), 1) := kDec_at dA274_cX11_rough 1 rfl
theorem dX11_rough_2 : decode cX11_rough 2 = .ok (.putfield 90, 3) := kDec_at dA274_cX11_rough 2 rfl
theorem dX11_rough_5 : decode cX11_rough 5 = .ok (.iload_n 1, 1) := kDec_at dA274_cX11_rough 3 rfl
theorem dX11_rough_6 : decode cX11_rough 6 = .ok (.invokestatic 117, 3) := kDec_at dA274_cX11_rough 4 rfl
theorem dX11_rough_9 : decode cX11_rough 9 = .ok (.ifCond .eq 10, 3) := kDec_at dA274_cX11_rough 5 rfl
theorem dX11_rough_19 : decode cX11_rough 19 = .ok (.iconst (-1), 1) := kDec_at dA274_cX11_rough 6 rfl
theorem dX11_rough_20 : decode cX11_rough 20 = .ok (.ireturn, 1) := kDec_at dA274_cX11_rough 7 rfl
theorem dX11_rough_12 : decode cX11_rough 12 = .ok (.iload_n 2, 1) := kDec_at dA274_cX11_rough 8 rfl
theorem dX11_rough_13 : decode cX11_rough 13 = .ok (.invokestatic 117, 3) := kDec_at dA274_cX11_rough 9 rfl
theorem dX11_rough_16 : decode cX11_rough 16 = .ok (.ifCond .ne 5, 3) := kDec_at dA274_cX11_rough 10 rfl
theorem dX11_rough_21 : decode cX11_rough 21 = .ok (.aload_n 0, 1) := kDec_at dA274_cX11_rough 11 rfl
theorem dX11_rough_22 : decode cX11_rough 22 = .ok (.getfield 44, 3) := kDec_at dA274_cX11_rough 12 rfl
theorem dX11_rough_25 : decode cX11_rough 25 = .ok (.iload_n 1, 1) := kDec_at dA274_cX11_rough 13 rfl
theorem dX11_rough_26 : decode cX11_rough 26 = .ok (.iload_n 2, 1) := kDec_at dA274_cX11_rough 14 rfl
theorem dX11_rough_27 : decode cX11_rough 27 = .ok (.aload_n 0, 1) := kDec_at dA274_cX11_rough 15 rfl
theorem dX11_rough_28 : decode cX11_rough 28 = .ok (.getfield 34, 3) := kDec_at dA274_cX11_rough 16 rfl
theorem dX11_rough_31 : decode cX11_rough 31 = .ok (.aload_n 0, 1) := kDec_at dA274_cX11_rough 17 rfl
theorem dX11_rough_32 : decode cX11_rough 32 = .ok (.getfield 37, 3) := kDec_at dA274_cX11_rough 18 rfl
theorem dX11_rough_35 : decode cX11_rough 35 = .ok (.invokevirtual 181, 3) := kDec_at dA274_cX11_rough 19 rfl
theorem dX11_rough_38 : decode cX11_rough 38 = .ok (.istore_n 3, 1) := kDec_at dA274_cX11_rough 20 rfl
theorem dX11_rough_39 : decode cX11_rough 39 = .ok (.aload_n 0, 1) := kDec_at dA274_cX11_rough 21 rfl
theorem dX11_rough_40 : decode cX11_rough 40 = .ok (.aload_n 0, 1) := kDec_at dA274_cX11_rough 22 rfl
theorem dX11_rough_41 : decode cX11_rough 41 = .ok (.getfield 44, 3) := kDec_at dA274_cX11_rough 23 rfl
set_option maxRecDepth 20000 in
theorem ggX11_rough_X2_known : GoodIn wsX11_rough wsX2_known := goodIn_r _ [8] rfl (by decide +kernel)
set_option maxRecDepth 20000 in
theorem gX11_rough_X2_known : GoodIn wsX11_rough (va_wsS RX11 117 yX2_known wsX2_known) := goodIn_app (goodIn_r _ [5, 6, 7] rfl (by decide +kernel)) ggX11_rough_X2_known
set_option maxRecDepth 20000 in
theorem ggX11_rough_X7_passRoughly : GoodIn wsX11_rough wsX7_passRoughly := goodIn_r _ [13, 14, 15, 16, 17, 18, 19, 20, 21, 22, 23, 12, 24, 25, 26, 27, 28, 29, 30, 31, 32, 33, 34, 35, 36, 37, 38, 39, 40, 41, 42, 43, 7, 44, 45, 46, 47, 48, 49, 50, 51, 52, 53, 54, 55, 56, 57, 58, 59, 60, 61, 62, 63, 64, 65, 66, 67, 68, 69, 70, 71, 72, 73, 74, 75, 76, 77, 78, 79, 80, 81, 82, 83, 84, 85, 86, 87, 88, 89, 90, 91, 92, 93, 94, 95, 96, 97, 98, 99, 100, 101, 102, 103, 104, 105, 106, 107, 108, 109, 110, 111, 167, 168, 169, 170, 171, 172, 173, 174, 175, 176, 177] rfl (by decide +kernel)
set_option maxRecDepth 20000 in
theorem gX11_rough_X7_passRoughly : GoodIn wsX11_rough (wsV RX11 181 RX7 yX7_passRoughly wsX7_passRoughly) := goodIn_app (goodIn_r _ [9, 10, 11, 12] rfl (by decide +kernel)) ggX11_rough_X7_passRoughly
set_option maxRecDepth 20000 in
theorem ggX11_rough_X7_fault : GoodIn wsX11_rough wsX7_fault := goodIn_r _ [115, 25, 167, 168, 169] rfl (by decide +kernel)
set_option maxRecDepth 20000 in
theorem gX11_rough_X7_fault : GoodIn wsX11_rough (wsV RX11 127 RX7 yX7_fault wsX7_fault) := goodIn_app (goodIn_r _ [112, 113, 114, 12] rfl (by decide +kernel)) ggX11_rough_X7_fault
set_option maxRecDepth 100000 in
theorem dA275_cX11_rough : kDec cX11_rough [(44, .invokevirtual 127, 3), (47, .putfield 90, 3), (50, .iload_n 3, 1), (51, .iconst (-1), 1), (52, .if_icmp .ne 5, 3), (57, .aload_n 0, 1), (58, .aload_n 0, 1), (59, .getfield 37, 3), (62, .invokevirtual 113, 3), (65, .pop, 1), (66, .iload_n 3, 1), (67, .ireturn, 1), (55, .iconst (-1), 1), (56, .ireturn, 1)] = true := by decide +kernel
theorem dX11_rough_44 : decode cX11_rough 44 = .ok (.invokevirtual 127, 3) := kDec_at dA275_cX11_rough 0 rfl
theorem dX11_rough_47 : decode cX11_rough 47 = .ok (.putfield 90, 3) := kDec_at dA275_cX11_rough 1 rfl
theorem dX11_rough_50 : decode cX11_rough 50 = .ok (.iload_n 3, 1) := kDec_at dA275_cX11_rough 2 rfl
theorem dX11_rough_51 : decode cX11_rough 51 = .ok (.iconst (-1), 1) := kDec_at dA275_cX11_rough 3 rfl
theorem dX11_rough_52 : decode cX11_rough 52 = .ok (.if_icmp .ne 5, 3) := kDec_at dA275_cX11_rough 4 rfl
theorem dX11_rough_57 : decode cX11_rough 57 = .ok (.aload_n 0, 1) := kDec_at dA275_cX11_rough 5 rfl
theorem dX11_rough_58 : decode cX11_rough 58 = .ok (.aload_n 0, 1) := kDec_at dA275_cX11_rough 6 rfl
theorem dX11_rough_59 : decode cX11_rough 59 = .ok (.getfield 37, 3) := kDec_at dA275_cX11_rough 7 rfl
theorem dX11_rough_62 : decode cX11_rough 62 = .ok (.invokevirtual 113, 3) := kDec_at dA275_cX11_rough 8 rfl
theorem dX11_rough_65 : decode cX11_rough 65 = .ok (.pop, 1) := kDec_at dA275_cX11_rough 9 rfl
theorem dX11_rough_66 : decode cX11_rough 66 = .ok (.iload_n 3, 1) := kDec_at dA275_cX11_rough 10 rfl
theorem dX11_rough_67 : decode cX11_rough 67 = .ok (.ireturn, 1) := kDec_at dA275_cX11_rough 11 rfl
theorem dX11_rough_55 : decode cX11_rough 55 = .ok (.iconst (-1), 1) := kDec_at dA275_cX11_rough 12 rfl
theorem dX11_rough_56 : decode cX11_rough 56 = .ok (.ireturn, 1) := kDec_at dA275_cX11_rough 13 rfl
set_option maxRecDepth 20000 in
theorem ggX11_rough_X11_become : GoodIn wsX11_rough wsX11_become := goodIn_r _ [119, 120, 3, 121, 122, 123, 124, 125, 126, 127, 128, 19, 129, 130, 131, 132, 133, 134, 33, 34, 29, 35, 31, 135, 37, 38, 39, 40, 136, 137, 138, 139, 140, 141, 142, 143, 144, 145, 146, 147, 148, 149, 150, 151, 152, 153, 154, 155, 156, 157, 158, 159, 160, 161, 162, 163, 164, 165, 166, 178, 179, 180, 181, 170, 171, 182, 183, 184, 185, 186, 187, 188, 189, 190, 191, 192, 193, 194, 195, 196, 197, 198, 199, 200, 201] rfl (by decide +kernel)
set_option maxRecDepth 20000 in
theorem gX11_rough_X11_become : GoodIn wsX11_rough (wsV RX11 113 RX11 yX11_become wsX11_become) := goodIn_app (goodIn_r _ [116, 117, 118, 97] rfl (by decide +kernel)) ggX11_rough_X11_become

end

/-! 59n.rough -/
section
theorem F_add_c {cap : Nat} {l l' r : Int32} {f f' : Nat → Int32} {v : Int32} (h : F_add cap l l' r f f' v) : (l.toInt < cap ∧ r.toInt = 1 ∧ l'.toInt = l.toInt + 1) ∨ ((cap : Int) ≤ l.toInt ∧ r.toInt = 0 ∧ l'.toInt = l.toInt) := by
  rcases h with ⟨a1, a2, a3, _⟩ | ⟨a1, a2, a3, _⟩
  · exact Or.inl ⟨a1, by rw [a3]; rfl, a2⟩
  · exact Or.inr ⟨a1, by rw [a3]; rfl, by rw [a2]⟩

set_option maxHeartbeats 40000000 in
set_option maxRecDepth 100000 in
theorem f_X7_passRoughly (l : Launch) (dC : Nat → ClassId) (dI : Nat → Nat → Nat) (cI cS : ClassId) (sz : Nat) (oP : Nat) (nx : Nat) (nd : Nat) (oC : Nat) (nB : Nat) (aB : Nat) (ax : Nat) (ad : Nat) (o4 : Nat) (o5 : Nat) (a41 : Nat) (a42 : Nat) (a43 : Nat) (a51 : Nat) (a52 : Nat) (a53 : Nat) (ft : Int32) (lB : Int32) (fB : Nat → Int32) (lx : Int32) (fx : Nat → Int32) (ld : Int32) (fd : Nat → Int32) (l4 : Int32) (f41 : Nat → Int32) (f42 : Nat → Int32) (f43 : Nat → Int32) (l5 : Int32) (f51 : Nat → Int32) (f52 : Nat → Int32) (f53 : Nat → Int32) (a : Int32) (b : Int32) (g_lB : 0 ≤ lB.toInt ∧ lB.toInt ≤ 2400) (g_lx : 0 ≤ lx.toInt ∧ lx.toInt ≤ 300) (g_ld : 0 ≤ ld.toInt ∧ ld.toInt ≤ 300) (hlt : prg lx.toInt 0 65535 fx) (hT4 : HT 512 511 hsT f42 f43) (ho4 : (occ f43 512 : Int) ≤ 511) (hT5 : HT 512 511 hsT f52 f53) (ho5 : (occ f53 512 : Int) ≤ 511) (hL4 : prg 256 (-1) 65535 f41) (hL5 : prg 256 (-1) 65535 f51) (hBr : okB (Bc a f42 f43 f52 f53)) : kMi l yX7_passRoughly wsX7_passRoughly ({ frames := 4, cells := 0, slots := 0, locals := 94 } : Room) [.ref oP, .int a, .int b, .ref nx, .ref nd] sz (dC, dI) vwCl [(cI, .int), (cS, .short)] [(oP, .inr (7, [.ref oC, .ref nB, .int ft])), (nB, .inr (5, [.ref aB, .int lB])), (aB, .inl (cI, 2400, .inl fB)), (nx, .inr (5, [.ref ax, .int lx])), (ax, .inl (cI, 300, .inl fx)), (nd, .inr (5, [.ref ad, .int ld])), (ad, .inl (cI, 300, .inl fd)), (oC, .inr (2, [.ref o4, .ref o5])), (o4, .inr (10, [.ref a41, .ref a42, .ref a43, .int l4])), (a41, .inl (cI, 256, .inl f41)), (a42, .inl (cI, 512, .inl f42)), (a43, .inl (cI, 512, .inl f43)), (o5, .inr (10, [.ref a51, .ref a52, .ref a53, .int l5])), (a51, .inl (cI, 256, .inl f51)), (a52, .inl (cI, 512, .inl f52)), (a53, .inl (cI, 512, .inl f53))] (va_Nw (.methodLinkNest RX2 52 yX11_isLetter "TextMender")) 0 0 (fun (A : Nat → Prop) (r : Int32) (hh9 : Heap) => ∃ (ft' : Int32) (lB' : Int32) (fB' : Nat → Int32) (ld' : Int32) (fd' : Nat → Int32), kPD (dC, dI) vwCl A [(oP, .inr (7, [.ref oC, .ref nB, .int ft'])), (nB, .inr (5, [.ref aB, .int lB'])), (aB, .inl (cI, 2400, .inl fB')), (nx, .inr (5, [.ref ax, .int lx])), (ax, .inl (cI, 300, .inl fx)), (nd, .inr (5, [.ref ad, .int ld'])), (ad, .inl (cI, 300, .inl fd')), (oC, .inr (2, [.ref o4, .ref o5])), (o4, .inr (10, [.ref a41, .ref a42, .ref a43, .int l4])), (a41, .inl (cI, 256, .inl f41)), (a42, .inl (cI, 512, .inl f42)), (a43, .inl (cI, 512, .inl f43)), (o5, .inr (10, [.ref a51, .ref a52, .ref a53, .int l5])), (a51, .inl (cI, 256, .inl f51)), (a52, .inl (cI, 512, .inl f52)), (a53, .inl (cI, 512, .inl f53))] hh9 ∧ (0 ≤ lB'.toInt ∧ lB'.toInt ≤ 2400) ∧ (0 ≤ ld'.toInt ∧ ld'.toInt ≤ 300) ∧ (F_pr r ld' fd' a b f41 f51 (Bc a f42 f43 f52 f53) lx.toInt fx)) := by
  refine kMi_of (cc := cX7_passRoughly) (maxL := 8) (ret := (some .int)) (lv := [(0, .ref oP), (1, .int a), (2, .int b), (3, .ref nx), (4, .ref nd)]) (by decide +kernel) rfl rfl (Nat.le_of_ble_eq_true rfl) ?_
  intro p e s m below meth c A QQ ls hx hb hr hts hml hown hlocks hA hQQ hK hX hP hD hS hl
  have hown : s.vm.findClass RX7 = some m.cls := hown
  have hcf := k_cf hx hb hml hown hts
  have hN52 := hX
  have in_X7 : ∀ w ∈ wsX70, w ∈ wsX7_passRoughly := fun _ h => List.mem_cons_of_mem _ (List.mem_append_left _ (List.mem_append_left _ (List.mem_append_left _ (List.mem_append_right _ (h)))))
  replace g_lB := hid g_lB
  refine lv_aload_n hx hb dX7_passRoughly_0 rfl (lv_at hl 0 rfl) ?_
  refine lv_iload_n hx hb dX7_passRoughly_1 rfl (lv_at hl 1 rfl) ?_
  refine lv_aload_n hx hb dX7_passRoughly_2 rfl (lv_at hl 3 rfl) ?_
  refine kV_i (rest := []) (q0 := 0) (ci := 7) hcf (f_X7_write l dC dI cI cS s.heap.size oP nx oC nB aB o4 o5 a41 a42 a43 a51 a52 a53 ax ft lB fB l4 f42 f43 l5 f52 f53 lx fx a (g_lB) (g_lx) (hlt) (hT4) (by omega) (hT5) (by omega)) kc_X7_write gX7_passRoughly_X7_write rfl rfl rfl ⟨Nat.le_of_ble_eq_true rfl, Nat.le_of_ble_eq_true rfl⟩ kX_t hK hP hD hS hA [0, 1, 2, 7, 8, 10, 11, 12, 14, 15, 3, 4] [5, 6, 9, 13] rfl (by decide +kernel) rfl rfl rfl hl rfl (Nat.le_of_ble_eq_true rfl) dX7_passRoughly_3 ⟨Nat.le_of_ble_eq_true rfl, Nat.le_of_ble_eq_true rfl⟩ (fun r_1 H locs hB hJ hSn => ?_)
  obtain ⟨ft_1, lB_1, fB_1, ⟨hP1, hD1⟩, hf1_0, hf1_1, hf1_2⟩ := hB
  obtain ⟨hPn, hDn⟩ := hJ _ hP1 hD1 [(nd, .inr (5, [.ref ad, .int ld])), (ad, .inl (cI, 300, .inl fd)), (a41, .inl (cI, 256, .inl f41)), (a51, .inl (cI, 256, .inl f51)), (oP, .inr (7, [.ref oC, .ref nB, .int ft_1])), (nB, .inr (5, [.ref aB, .int lB_1])), (aB, .inl (cI, 2400, .inl fB_1)), (oC, .inr (2, [.ref o4, .ref o5])), (o4, .inr (10, [.ref a41, .ref a42, .ref a43, .int l4])), (a42, .inl (cI, 512, .inl f42)), (a43, .inl (cI, 512, .inl f43)), (o5, .inr (10, [.ref a51, .ref a52, .ref a53, .int l5])), (a52, .inl (cI, 512, .inl f52)), (a53, .inl (cI, 512, .inl f53)), (nx, .inr (5, [.ref ax, .int lx])), (ax, .inl (cI, 300, .inl fx))] rfl
  clear hP hD hS hJ hP1 hD1
  have hP := hPn
  have hD := hDn
  have hS := hSn
  clear hPn hDn hSn
  refine lv_if_eq (tgt := 22) hx hb dX7_passRoughly_6 (by decide) (fun c_2 => ?_) (fun c_2 => ?_)
  · have tc_2 : r_1.toInt = 0 := v_eq c_2
    refine lv_iconst (v := (-1)) hx hb dX7_passRoughly_22 (by decide) ?_
    exact kl_i (v := (-1)) hQQ hx hb hr hlocks hS dX7_passRoughly_23 ⟨ft_1, lB_1, fB_1, ld, fd, kPD_sub hP hD [4, 5, 6, 14, 15, 0, 1, 7, 8, 2, 9, 10, 11, 3, 12, 13] (by decide +kernel) rfl, hf1_0, g_ld, by first | exact Or.inr ⟨rfl, rg_w0 (Bf := Bc a f42 f43 f52 f53) hf1_2 (by omega)⟩ | exact Or.inr ⟨rfl, rg_no (Bf := Bc a f42 f43 f52 f53) hwr9 hby9 (fun z => by omega)⟩⟩
  · have tc_2 : ¬ r_1.toInt = 0 := v_ne c_2
    have hwr9 := wr_WR (E := fun j => enc a (fx j) (Bc a f42 f43 f52 f53 (fx j))) hf1_2 (by omega)
    have hby9 := WR_b hwr9 (fun j hj => hlt j (by omega)) hBr
    refine lv_aload_n hx hb dX7_passRoughly_9 rfl (lv_at hl 0 rfl) ?_
    refine va_get (D := (dC, dI)) (ci := 7) (v := .ref nB) (C := RX7) (T := TX7) (N := 3) hx hb hts in_X7 hown hK hP 4 rfl rfl 1 (by decide) (hts (.fieldLink RX7 14 "TextMender$Passage" "bytes" "LTextMender$Numbers;") (List.mem_of_getElem? (i := 1) rfl)) (fun _ h9 => h9) rfl dX7_passRoughly_10 ?_
    refine kV_i (rest := []) (q0 := 0) (ci := 5) hcf (m_X5_length l dC dI cI cS H.size nB aB lB_1 ) kc_X5_length gX7_passRoughly_X5_length rfl rfl rfl ⟨Nat.le_of_ble_eq_true rfl, Nat.le_of_ble_eq_true rfl⟩ kX_t hK hP hD hS hA [5] [0, 1, 2, 3, 4, 6, 7, 8, 9, 10, 11, 12, 13, 14, 15] rfl (by decide +kernel) rfl rfl rfl hl rfl (Nat.le_of_ble_eq_true rfl) dX7_passRoughly_13 ⟨Nat.le_of_ble_eq_true rfl, Nat.le_of_ble_eq_true rfl⟩ (fun r_3 H locs hB hJ hSn => ?_)
    obtain ⟨⟨hP1, hD1⟩, hf3_0⟩ := hB
    obtain ⟨hPn, hDn⟩ := hJ _ hP1 hD1 [(nd, .inr (5, [.ref ad, .int ld])), (ad, .inl (cI, 300, .inl fd)), (a41, .inl (cI, 256, .inl f41)), (a51, .inl (cI, 256, .inl f51)), (oP, .inr (7, [.ref oC, .ref nB, .int ft_1])), (aB, .inl (cI, 2400, .inl fB_1)), (oC, .inr (2, [.ref o4, .ref o5])), (o4, .inr (10, [.ref a41, .ref a42, .ref a43, .int l4])), (a42, .inl (cI, 512, .inl f42)), (a43, .inl (cI, 512, .inl f43)), (o5, .inr (10, [.ref a51, .ref a52, .ref a53, .int l5])), (a52, .inl (cI, 512, .inl f52)), (a53, .inl (cI, 512, .inl f53)), (nx, .inr (5, [.ref ax, .int lx])), (ax, .inl (cI, 300, .inl fx)), (nB, .inr (5, [.ref aB, .int lB_1]))] rfl
    clear hP hD hS hJ hP1 hD1
    have hP := hPn
    have hD := hDn
    have hS := hSn
    clear hPn hDn hSn
    rw [hf3_0]
    refine lv_sipush (v := 900) hx hb dX7_passRoughly_16 (by decide) ?_
    refine lv_icmp_le (tgt := 24) hx hb dX7_passRoughly_19 (by decide) (fun c_4 => ?_) (fun c_4 => ?_)
    · have tc_4 : lB_1.toInt ≤ 900 := v_le c_4
      refine lv_aload hx hb dX7_passRoughly_24 (lv_at hl 4 rfl) ?_
      refine lv_iconst (v := 0) hx hb dX7_passRoughly_26 (by decide) ?_
      refine kV_v (rest := []) (q0 := 0) (ci := 5) hcf (m_X5_cut l dC dI cI cS H.size nd ad ld 0 (v_rr g_ld (by decide) (by decide))) kc_X5_cut gX7_passRoughly_X5_cut rfl rfl rfl ⟨Nat.le_of_ble_eq_true rfl, Nat.le_of_ble_eq_true rfl⟩ kX_t hK hP hD hS hA [0] [1, 2, 3, 4, 5, 6, 7, 8, 9, 10, 11, 12, 13, 14, 15] rfl (by decide +kernel) rfl rfl rfl hl rfl (Nat.le_of_ble_eq_true rfl) dX7_passRoughly_27 ⟨Nat.le_of_ble_eq_true rfl, Nat.le_of_ble_eq_true rfl⟩ (fun H locs hB hJ hSn => ?_)
      obtain ⟨lu_5, ⟨hP1, hD1⟩, hf5_0, hf5_1, hf5_2⟩ := hB
      obtain ⟨hPn, hDn⟩ := hJ _ hP1 hD1 [(ad, .inl (cI, 300, .inl fd)), (a41, .inl (cI, 256, .inl f41)), (a51, .inl (cI, 256, .inl f51)), (oP, .inr (7, [.ref oC, .ref nB, .int ft_1])), (aB, .inl (cI, 2400, .inl fB_1)), (oC, .inr (2, [.ref o4, .ref o5])), (o4, .inr (10, [.ref a41, .ref a42, .ref a43, .int l4])), (a42, .inl (cI, 512, .inl f42)), (a43, .inl (cI, 512, .inl f43)), (o5, .inr (10, [.ref a51, .ref a52, .ref a53, .int l5])), (a52, .inl (cI, 512, .inl f52)), (a53, .inl (cI, 512, .inl f53)), (nx, .inr (5, [.ref ax, .int lx])), (ax, .inl (cI, 300, .inl fx)), (nB, .inr (5, [.ref aB, .int lB_1])), (nd, .inr (5, [.ref ad, .int lu_5]))] rfl
      clear hP hD hS hJ hP1 hD1
      have hP := hPn
      have hD := hDn
      have hS := hSn
      clear hPn hDn hSn
      have ha5 : lu_5.toInt = 0 := F_cut_l hf5_2 (by first | decide | omega) (by first | omega | (show (0 : Int) ≤ _; omega))
      refine lv_iconst (v := 0) hx hb dX7_passRoughly_30 (by decide) ?_
      refine lv_istore (lv' := [(5, .int 0), (0, .ref oP), (1, .int a), (2, .int b), (3, .ref nx), (4, .ref nd)]) hx hb dX7_passRoughly_31 hl (by decide) rfl (fun ls hl => ?_)
      refine lv_iconst (v := 0) hx hb dX7_passRoughly_33 (by decide) ?_
      refine lv_istore (lv' := [(6, .int 0), (5, .int 0), (0, .ref oP), (1, .int a), (2, .int b), (3, .ref nx), (4, .ref nd)]) hx hb dX7_passRoughly_34 hl (by decide) rfl (fun ls hl => ?_)
      have LOOP_36 : ∀ (k_36 : Nat) (mk : Int32) (p_ : Int32) (l2 : Int32) (f2 : Nat → Int32) (H : Heap) (locs : List Loc) (ls : Array Slot), MSd (900 - p_.toInt : Int) k_36 → (0 ≤ mk.toInt ∧ mk.toInt ≤ 300) → (0 ≤ p_.toInt ∧ p_.toInt ≤ 900) → (0 ≤ l2.toInt ∧ l2.toInt ≤ 300) → (p_.toInt ≤ lB_1.toInt) → (RQ p_ l2 mk f2 (dl b f41 f51 fB_1 lB_1.toInt) (dx b f41 f51 fB_1 lB_1.toInt)) → (0 ≤ mk.toInt ∧ mk.toInt ≤ l2.toInt) → va_P (dC, dI) vwCl [(ad, .inl (cI, 300, .inl f2)), (a41, .inl (cI, 256, .inl f41)), (a51, .inl (cI, 256, .inl f51)), (oP, .inr (7, [.ref oC, .ref nB, .int ft_1])), (aB, .inl (cI, 2400, .inl fB_1)), (oC, .inr (2, [.ref o4, .ref o5])), (o4, .inr (10, [.ref a41, .ref a42, .ref a43, .int l4])), (a42, .inl (cI, 512, .inl f42)), (a43, .inl (cI, 512, .inl f43)), (o5, .inr (10, [.ref a51, .ref a52, .ref a53, .int l5])), (a52, .inl (cI, 512, .inl f52)), (a53, .inl (cI, 512, .inl f53)), (nx, .inr (5, [.ref ax, .int lx])), (ax, .inl (cI, 300, .inl fx)), (nB, .inr (5, [.ref aB, .int lB_1])), (nd, .inr (5, [.ref ad, .int l2]))] H → va_D A [(ad, .inl (cI, 300, .inl f2)), (a41, .inl (cI, 256, .inl f41)), (a51, .inl (cI, 256, .inl f51)), (oP, .inr (7, [.ref oC, .ref nB, .int ft_1])), (aB, .inl (cI, 2400, .inl fB_1)), (oC, .inr (2, [.ref o4, .ref o5])), (o4, .inr (10, [.ref a41, .ref a42, .ref a43, .int l4])), (a42, .inl (cI, 512, .inl f42)), (a43, .inl (cI, 512, .inl f43)), (o5, .inr (10, [.ref a51, .ref a52, .ref a53, .int l5])), (a52, .inl (cI, 512, .inl f52)), (a53, .inl (cI, 512, .inl f53)), (nx, .inr (5, [.ref ax, .int lx])), (ax, .inl (cI, 300, .inl fx)), (nB, .inr (5, [.ref aB, .int lB_1])), (nd, .inr (5, [.ref ad, .int l2]))] → va_S A s.heap H locs → lv_has ls 8 [(6, .int p_), (5, .int mk), (0, .ref oP), (1, .int a), (2, .int b), (3, .ref nx), (4, .ref nd)] → W p l e (headSpec wsX7_passRoughly ({ frames := 4, cells := 0, slots := 0, locals := 94 } : Room)).room s m ([.ref oP, .int a, .int b, .ref nx, .ref nd] : List Value).toArray below meth c H locs 0 0 (MQ below QQ ([.ref oP, .int a, .int b, .ref nx, .ref nd] : List Value).toArray s 0 0 A) (F0 m 36 ls []) := by
        clear hP hD hS hl
        try (clear ha5 hf5_0 hf5_1 hf5_2 g_ld)
        intro k_36
        induction k_36 with
        | zero =>
          intro mk p_ l2 f2 H locs ls hm_36 g_mk g_p_ g_l2 hpl hrq hmk hP hD hS hl
          exact ms_0 hm_36
        | succ k_36 ih_36 =>
          intro mk p_ l2 f2 H locs ls hm_36 g_mk g_p_ g_l2 hpl hrq hmk hP hD hS hl
          refine lv_iload hx hb dX7_passRoughly_36 (lv_at hl 0 rfl) ?_
          refine lv_aload_n hx hb dX7_passRoughly_38 rfl (lv_at hl 2 rfl) ?_
          refine va_get (D := (dC, dI)) (ci := 7) (v := .ref nB) (C := RX7) (T := TX7) (N := 3) hx hb hts in_X7 hown hK hP 3 rfl rfl 1 (by decide) (hts (.fieldLink RX7 14 "TextMender$Passage" "bytes" "LTextMender$Numbers;") (List.mem_of_getElem? (i := 1) rfl)) (fun _ h9 => h9) rfl dX7_passRoughly_39 ?_
          refine kV_i (rest := [.int p_]) (q0 := 0) (ci := 5) hcf (m_X5_length l dC dI cI cS H.size nB aB lB_1 ) kc_X5_length gX7_passRoughly_X5_length rfl rfl rfl ⟨Nat.le_of_ble_eq_true rfl, Nat.le_of_ble_eq_true rfl⟩ kX_t hK hP hD hS hA [14] [0, 1, 2, 3, 4, 5, 6, 7, 8, 9, 10, 11, 12, 13, 15] rfl (by decide +kernel) rfl rfl rfl hl rfl (Nat.le_of_ble_eq_true rfl) dX7_passRoughly_42 ⟨Nat.le_of_ble_eq_true rfl, Nat.le_of_ble_eq_true rfl⟩ (fun r_6 H locs hB hJ hSn => ?_)
          obtain ⟨⟨hP1, hD1⟩, hf6_0⟩ := hB
          obtain ⟨hPn, hDn⟩ := hJ _ hP1 hD1 [(ad, .inl (cI, 300, .inl f2)), (a41, .inl (cI, 256, .inl f41)), (a51, .inl (cI, 256, .inl f51)), (oP, .inr (7, [.ref oC, .ref nB, .int ft_1])), (aB, .inl (cI, 2400, .inl fB_1)), (oC, .inr (2, [.ref o4, .ref o5])), (o4, .inr (10, [.ref a41, .ref a42, .ref a43, .int l4])), (a42, .inl (cI, 512, .inl f42)), (a43, .inl (cI, 512, .inl f43)), (o5, .inr (10, [.ref a51, .ref a52, .ref a53, .int l5])), (a52, .inl (cI, 512, .inl f52)), (a53, .inl (cI, 512, .inl f53)), (nx, .inr (5, [.ref ax, .int lx])), (ax, .inl (cI, 300, .inl fx)), (nd, .inr (5, [.ref ad, .int l2])), (nB, .inr (5, [.ref aB, .int lB_1]))] rfl
          clear hP hD hS hJ hP1 hD1
          have hP := hPn
          have hD := hDn
          have hS := hSn
          clear hPn hDn hSn
          rw [hf6_0]
          refine lv_icmp_ge (tgt := 140) hx hb dX7_passRoughly_45 (by decide) (fun c_7 => ?_) (fun c_7 => ?_)
          · have tc_7 : lB_1.toInt ≤ p_.toInt := v_le c_7
            refine lv_iload hx hb dX7_passRoughly_140 (lv_at hl 1 rfl) ?_
            exact kl_i (v := mk) hQQ hx hb hr hlocks hS dX7_passRoughly_142 ⟨ft_1, lB_1, fB_1, l2, f2, kPD_sub hP hD [3, 15, 4, 12, 13, 14, 0, 5, 6, 1, 7, 8, 9, 2, 10, 11] (by decide +kernel) rfl, hf1_0, g_l2, Or.inl ⟨(RQ_mk hrq).1, rg_yes (Bf := Bc a f42 f43 f52 f53) hwr9 (by omega) hrq (by omega) (by omega)⟩⟩
          · have tc_7 : p_.toInt < lB_1.toInt := v_nle c_7
            refine lv_aload_n hx hb dX7_passRoughly_48 rfl (lv_at hl 2 rfl) ?_
            refine va_get (D := (dC, dI)) (ci := 7) (v := .ref oC) (C := RX7) (T := TX7) (N := 3) hx hb hts in_X7 hown hK hP 3 rfl rfl 0 (by decide) (hts (.fieldLink RX7 20 "TextMender$Passage" "codes" "LTextMender$Codes;") (List.mem_of_getElem? (i := 2) rfl)) (fun _ h9 => h9) rfl dX7_passRoughly_49 ?_
            refine lv_iload_n hx hb dX7_passRoughly_52 rfl (lv_at hl 4 rfl) ?_
            refine lv_aload_n hx hb dX7_passRoughly_53 rfl (lv_at hl 2 rfl) ?_
            refine va_get (D := (dC, dI)) (ci := 7) (v := .ref nB) (C := RX7) (T := TX7) (N := 3) hx hb hts in_X7 hown hK hP 3 rfl rfl 1 (by decide) (hts (.fieldLink RX7 14 "TextMender$Passage" "bytes" "LTextMender$Numbers;") (List.mem_of_getElem? (i := 1) rfl)) (fun _ h9 => h9) rfl dX7_passRoughly_54 ?_
            refine lv_iload hx hb dX7_passRoughly_57 (lv_at hl 0 rfl) ?_
            refine lv_aload_n hx hb dX7_passRoughly_59 rfl (lv_at hl 2 rfl) ?_
            refine va_get (D := (dC, dI)) (ci := 7) (v := .ref nB) (C := RX7) (T := TX7) (N := 3) hx hb hts in_X7 hown hK hP 3 rfl rfl 1 (by decide) (hts (.fieldLink RX7 14 "TextMender$Passage" "bytes" "LTextMender$Numbers;") (List.mem_of_getElem? (i := 1) rfl)) (fun _ h9 => h9) rfl dX7_passRoughly_60 ?_
            refine kV_i (rest := [.int p_, .ref nB, .int b, .ref oC]) (q0 := 0) (ci := 5) hcf (m_X5_length l dC dI cI cS H.size nB aB lB_1 ) kc_X5_length gX7_passRoughly_X5_length rfl rfl rfl ⟨Nat.le_of_ble_eq_true rfl, Nat.le_of_ble_eq_true rfl⟩ kX_t hK hP hD hS hA [15] [0, 1, 2, 3, 4, 5, 6, 7, 8, 9, 10, 11, 12, 13, 14] rfl (by decide +kernel) rfl rfl rfl hl rfl (Nat.le_of_ble_eq_true rfl) dX7_passRoughly_63 ⟨Nat.le_of_ble_eq_true rfl, Nat.le_of_ble_eq_true rfl⟩ (fun r_8 H locs hB hJ hSn => ?_)
            obtain ⟨⟨hP1, hD1⟩, hf8_0⟩ := hB
            obtain ⟨hPn, hDn⟩ := hJ _ hP1 hD1 [(ad, .inl (cI, 300, .inl f2)), (a41, .inl (cI, 256, .inl f41)), (a51, .inl (cI, 256, .inl f51)), (oP, .inr (7, [.ref oC, .ref nB, .int ft_1])), (aB, .inl (cI, 2400, .inl fB_1)), (oC, .inr (2, [.ref o4, .ref o5])), (o4, .inr (10, [.ref a41, .ref a42, .ref a43, .int l4])), (a42, .inl (cI, 512, .inl f42)), (a43, .inl (cI, 512, .inl f43)), (o5, .inr (10, [.ref a51, .ref a52, .ref a53, .int l5])), (a52, .inl (cI, 512, .inl f52)), (a53, .inl (cI, 512, .inl f53)), (nx, .inr (5, [.ref ax, .int lx])), (ax, .inl (cI, 300, .inl fx)), (nd, .inr (5, [.ref ad, .int l2])), (nB, .inr (5, [.ref aB, .int lB_1]))] rfl
            clear hP hD hS hJ hP1 hD1
            have hP := hPn
            have hD := hDn
            have hS := hSn
            clear hPn hDn hSn
            rw [hf8_0]
            refine kV_i (rest := []) (q0 := 0) (ci := 2) hcf (f_X2_decode l dC dI cI cS H.size oC nB o4 o5 a41 a42 a43 a51 a52 a53 aB 2400 l4 f41 l5 f51 lB_1 fB_1 b p_ lB_1 (by omega) (by omega) (by omega) (by omega) (hby9) (hL4) (hL5)) kc_X2_decode gX7_passRoughly_X2_decode rfl rfl rfl ⟨Nat.le_of_ble_eq_true rfl, Nat.le_of_ble_eq_true rfl⟩ (kX_1 hN52) hK hP hD hS hA [5, 6, 1, 9, 2, 15, 4] [0, 3, 7, 8, 10, 11, 12, 13, 14] rfl (by decide +kernel) rfl rfl rfl hl rfl (Nat.le_of_ble_eq_true rfl) dX7_passRoughly_66 ⟨Nat.le_of_ble_eq_true rfl, Nat.le_of_ble_eq_true rfl⟩ (fun r_9 H locs hB hJ hSn => ?_)
            obtain ⟨⟨hP1, hD1⟩, hf9_0⟩ := hB
            obtain ⟨hPn, hDn⟩ := hJ _ hP1 hD1 [(ad, .inl (cI, 300, .inl f2)), (oP, .inr (7, [.ref oC, .ref nB, .int ft_1])), (a42, .inl (cI, 512, .inl f42)), (a43, .inl (cI, 512, .inl f43)), (a52, .inl (cI, 512, .inl f52)), (a53, .inl (cI, 512, .inl f53)), (nx, .inr (5, [.ref ax, .int lx])), (ax, .inl (cI, 300, .inl fx)), (nd, .inr (5, [.ref ad, .int l2])), (oC, .inr (2, [.ref o4, .ref o5])), (o4, .inr (10, [.ref a41, .ref a42, .ref a43, .int l4])), (a41, .inl (cI, 256, .inl f41)), (o5, .inr (10, [.ref a51, .ref a52, .ref a53, .int l5])), (a51, .inl (cI, 256, .inl f51)), (nB, .inr (5, [.ref aB, .int lB_1])), (aB, .inl (cI, 2400, .inl fB_1))] rfl
            clear hP hD hS hJ hP1 hD1
            have hP := hPn
            have hD := hDn
            have hS := hSn
            clear hPn hDn hSn
            refine lv_istore (lv' := [(7, .int r_9), (6, .int p_), (5, .int mk), (0, .ref oP), (1, .int a), (2, .int b), (3, .ref nx), (4, .ref nd)]) hx hb dX7_passRoughly_69 hl (by decide) rfl (fun ls hl => ?_)
            refine lv_aload hx hb dX7_passRoughly_71 (lv_at hl 7 rfl) ?_
            refine lv_iload hx hb dX7_passRoughly_73 (lv_at hl 0 rfl) ?_
            refine lv_iconst (v := (-1)) hx hb dX7_passRoughly_75 (by decide) ?_
            refine lv_icmp_ne (tgt := 84) hx hb dX7_passRoughly_76 (by decide) (fun c_10 => ?_) (fun c_10 => ?_)
            · have tc_10 : ¬ r_9.toInt = (-1) := v_ne c_10
              obtain ⟨l9, x9, hD9, hr9, hx9, hy9⟩ := F_dc_1 hf9_0 c_10
              have cp9 := v_clamp (x := p_) (by omega)
              have hp9 := Dec_pos hD9
              have hd9 := dl_of hD9
              refine lv_iload hx hb dX7_passRoughly_84 (lv_at hl 0 rfl) ?_
              refine kS_i (rest := [.ref nd]) hcf (f_X2_letterIn l dC dI cI cS H.size r_9 ) kc_X2_letterIn gX7_passRoughly_X2_letterIn rfl rfl ⟨Nat.le_of_ble_eq_true rfl, Nat.le_of_ble_eq_true rfl⟩ kX_t hK hP hD hS hA [] [0, 1, 2, 3, 4, 5, 6, 7, 8, 9, 10, 11, 12, 13, 14, 15] rfl (by decide +kernel) rfl hl rfl (Nat.le_of_ble_eq_true rfl) dX7_passRoughly_86 ⟨Nat.le_of_ble_eq_true rfl, Nat.le_of_ble_eq_true rfl⟩ (fun r_11 H locs hB hJ hSn => ?_)
              obtain ⟨⟨hP1, hD1⟩, hf11_0⟩ := hB
              obtain ⟨hPn, hDn⟩ := hJ _ hP1 hD1 [(ad, .inl (cI, 300, .inl f2)), (oP, .inr (7, [.ref oC, .ref nB, .int ft_1])), (a42, .inl (cI, 512, .inl f42)), (a43, .inl (cI, 512, .inl f43)), (a52, .inl (cI, 512, .inl f52)), (a53, .inl (cI, 512, .inl f53)), (nx, .inr (5, [.ref ax, .int lx])), (ax, .inl (cI, 300, .inl fx)), (nd, .inr (5, [.ref ad, .int l2])), (oC, .inr (2, [.ref o4, .ref o5])), (o4, .inr (10, [.ref a41, .ref a42, .ref a43, .int l4])), (a41, .inl (cI, 256, .inl f41)), (o5, .inr (10, [.ref a51, .ref a52, .ref a53, .int l5])), (a51, .inl (cI, 256, .inl f51)), (nB, .inr (5, [.ref aB, .int lB_1])), (aB, .inl (cI, 2400, .inl fB_1))] rfl
              clear hP hD hS hJ hP1 hD1
              have hP := hPn
              have hD := hDn
              have hS := hSn
              clear hPn hDn hSn
              refine kV_i (rest := []) (q0 := 0) (ci := 5) hcf (m_X5_add l dC dI cI cS H.size nd ad 300 l2 f2 r_11 (by omega) (by omega)) kc_X5_add gX7_passRoughly_X5_add rfl rfl rfl ⟨Nat.le_of_ble_eq_true rfl, Nat.le_of_ble_eq_true rfl⟩ kX_t hK hP hD hS hA [8, 0] [1, 2, 3, 4, 5, 6, 7, 9, 10, 11, 12, 13, 14, 15] rfl (by decide +kernel) rfl rfl rfl hl rfl (Nat.le_of_ble_eq_true rfl) dX7_passRoughly_89 ⟨Nat.le_of_ble_eq_true rfl, Nat.le_of_ble_eq_true rfl⟩ (fun r_12 H locs hB hJ hSn => ?_)
              obtain ⟨lu_12, fu_12, ⟨hP1, hD1⟩, hf12_0, hf12_1, hf12_2⟩ := hB
              obtain ⟨hPn, hDn⟩ := hJ _ hP1 hD1 [(oP, .inr (7, [.ref oC, .ref nB, .int ft_1])), (a42, .inl (cI, 512, .inl f42)), (a43, .inl (cI, 512, .inl f43)), (a52, .inl (cI, 512, .inl f52)), (a53, .inl (cI, 512, .inl f53)), (nx, .inr (5, [.ref ax, .int lx])), (ax, .inl (cI, 300, .inl fx)), (oC, .inr (2, [.ref o4, .ref o5])), (o4, .inr (10, [.ref a41, .ref a42, .ref a43, .int l4])), (a41, .inl (cI, 256, .inl f41)), (o5, .inr (10, [.ref a51, .ref a52, .ref a53, .int l5])), (a51, .inl (cI, 256, .inl f51)), (nB, .inr (5, [.ref aB, .int lB_1])), (aB, .inl (cI, 2400, .inl fB_1)), (nd, .inr (5, [.ref ad, .int lu_12])), (ad, .inl (cI, 300, .inl fu_12))] rfl
              clear hP hD hS hJ hP1 hD1
              have hP := hPn
              have hD := hDn
              have hS := hSn
              clear hPn hDn hSn
              have hfl12 := F_add_c hf12_2
              refine lv_if_ne (tgt := 97) hx hb dX7_passRoughly_92 (by decide) (fun c_13 => ?_) (fun c_13 => ?_)
              · have tc_13 : ¬ r_12.toInt = 0 := v_ne c_13
                refine lv_iload hx hb dX7_passRoughly_97 (lv_at hl 2 rfl) ?_
                refine lv_iload hx hb dX7_passRoughly_99 (lv_at hl 0 rfl) ?_
                refine lv_iconst (v := (-1)) hx hb dX7_passRoughly_101 (by decide) ?_
                refine lv_icmp_ne (tgt := 109) hx hb dX7_passRoughly_102 (by decide) (fun c_14 => ?_) (fun c_14 => by exfalso; have tc_14 : r_9.toInt = (-1) := v_eq c_14; omega)
                have tc_14 : ¬ r_9.toInt = (-1) := v_ne c_14
                refine lv_iconst (v := 0) hx hb dX7_passRoughly_109 (by decide) ?_
                refine lv_iadd hx hb dX7_passRoughly_110 ?_
                refine lv_topi (fun x_15 ex_15 => ?_)
                have tx_15 : x_15.toInt = mk.toInt + 0 := v_addR (l2 := 0) (h2 := 0) ex_15 g_mk (by decide) (by decide) (by decide)
                refine lv_istore (lv' := [(5, .int x_15), (7, .int r_9), (6, .int p_), (0, .ref oP), (1, .int a), (2, .int b), (3, .ref nx), (4, .ref nd)]) hx hb dX7_passRoughly_111 hl (by decide) rfl (fun ls hl => ?_)
                refine lv_iload hx hb dX7_passRoughly_113 (lv_at hl 2 rfl) ?_
                refine lv_iload hx hb dX7_passRoughly_115 (lv_at hl 1 rfl) ?_
                refine lv_iconst (v := (-1)) hx hb dX7_passRoughly_117 (by decide) ?_
                refine lv_icmp_ne (tgt := 125) hx hb dX7_passRoughly_118 (by decide) (fun c_16 => ?_) (fun c_16 => by exfalso; have tc_16 : r_9.toInt = (-1) := v_eq c_16; omega)
                have tc_16 : ¬ r_9.toInt = (-1) := v_ne c_16
                refine lv_iconst (v := 1) hx hb dX7_passRoughly_125 (by decide) ?_
                refine lv_iload hx hb dX7_passRoughly_126 (lv_at hl 1 rfl) ?_
                refine kS_i (rest := [.int 1, .int p_]) hcf (f_X2_bytesIn l dC dI cI cS H.size r_9 (by omega)) kc_X2_bytesIn gX7_passRoughly_X2_bytesIn rfl rfl ⟨Nat.le_of_ble_eq_true rfl, Nat.le_of_ble_eq_true rfl⟩ kX_t hK hP hD hS hA [] [0, 1, 2, 3, 4, 5, 6, 7, 8, 9, 10, 11, 12, 13, 14, 15] rfl (by decide +kernel) rfl hl rfl (Nat.le_of_ble_eq_true rfl) dX7_passRoughly_128 ⟨Nat.le_of_ble_eq_true rfl, Nat.le_of_ble_eq_true rfl⟩ (fun r_17 H locs hB hJ hSn => ?_)
                obtain ⟨⟨hP1, hD1⟩, hf17_0, hf17_1⟩ := hB
                obtain ⟨hPn, hDn⟩ := hJ _ hP1 hD1 [(oP, .inr (7, [.ref oC, .ref nB, .int ft_1])), (a42, .inl (cI, 512, .inl f42)), (a43, .inl (cI, 512, .inl f43)), (a52, .inl (cI, 512, .inl f52)), (a53, .inl (cI, 512, .inl f53)), (nx, .inr (5, [.ref ax, .int lx])), (ax, .inl (cI, 300, .inl fx)), (oC, .inr (2, [.ref o4, .ref o5])), (o4, .inr (10, [.ref a41, .ref a42, .ref a43, .int l4])), (a41, .inl (cI, 256, .inl f41)), (o5, .inr (10, [.ref a51, .ref a52, .ref a53, .int l5])), (a51, .inl (cI, 256, .inl f51)), (nB, .inr (5, [.ref aB, .int lB_1])), (aB, .inl (cI, 2400, .inl fB_1)), (nd, .inr (5, [.ref ad, .int lu_12])), (ad, .inl (cI, 300, .inl fu_12))] rfl
                clear hP hD hS hJ hP1 hD1
                have hP := hPn
                have hD := hDn
                have hS := hSn
                clear hPn hDn hSn
                refine va_mmax hx hb (by rw [hml]; exact hl.1.symm) hown (hts (.methodLink RX7 59 Lib.Math.max.name) (List.mem_of_getElem? (i := 4) rfl)) (hts (.static Lib.Math.max.name) (List.mem_of_getElem? (i := 5) rfl)) (hts (.initialized "java/lang/Math") (List.mem_of_getElem? (i := 6) rfl)) (hts (.code Lib.Math.max.name Lib.Math.max.code 2 (some .int)) (List.mem_of_getElem? (i := 7) rfl)) (Nat.le_of_ble_eq_true rfl) (Nat.le_of_ble_eq_true rfl) (Nat.zero_le _) (Nat.zero_le _) dX7_passRoughly_131 ?_
                refine lv_topi (fun x_18 ex_18 => ?_)
                have tx_18 : 1 ≤ x_18.toInt ∧ r_17.toInt ≤ x_18.toInt ∧ (x_18.toInt = 1 ∨ x_18.toInt = r_17.toInt) := v_max ex_18
                refine lv_iadd hx hb dX7_passRoughly_134 ?_
                refine lv_topi (fun x_19 ex_19 => ?_)
                have tx_19 : x_19.toInt = p_.toInt + x_18.toInt := v_add ex_19 (by show -2147483648 ≤ p_.toInt + x_18.toInt; omega) (by show p_.toInt + x_18.toInt < 2147483648; omega)
                refine lv_istore (lv' := [(6, .int x_19), (5, .int x_15), (7, .int r_9), (0, .ref oP), (1, .int a), (2, .int b), (3, .ref nx), (4, .ref nd)]) hx hb dX7_passRoughly_135 hl (by decide) rfl (fun ls hl => ?_)
                refine lv_goto (tgt := 36) hx hb dX7_passRoughly_137 (by decide) ?_
                exact ih_36 x_15 x_19 lu_12 fu_12 _ _ _ (ms_lt hm_36 (by show ((900 - x_19.toInt : Int)) < 900 - p_.toInt; omega) (by show (0 : Int) < 900 - p_.toInt; omega)) (v_rr (v_sumR (l := 0) (h := 300) (l2 := 0) (h2 := 0) tx_15 g_mk (by decide) (by decide) (by decide)) (by decide) (by decide)) (by show 0 ≤ x_19.toInt ∧ x_19.toInt ≤ 900; omega) (by show 0 ≤ lu_12.toInt ∧ lu_12.toInt ≤ 300; omega) (by show x_19.toInt ≤ lB_1.toInt; omega) (RQ_s hrq (F_add_l hf12_2 (by omega)) (F_add_f hf12_2 (by omega)) (Or.inr ⟨by rw [hd9.1]; omega, by rw [hd9.2]; exact v_inj (by omega), by omega, by rw [hd9.1]; omega⟩)) (by show 0 ≤ x_15.toInt ∧ x_15.toInt ≤ lu_12.toInt; omega) (hP.sub [15, 9, 11, 0, 13, 7, 8, 1, 2, 10, 3, 4, 5, 6, 12, 14] rfl) (hD.sub [15, 9, 11, 0, 13, 7, 8, 1, 2, 10, 3, 4, 5, 6, 12, 14] (by decide +kernel) rfl) hS (lv_sub hl [0, 1, 3, 4, 5, 6, 7] rfl)
              · have tc_13 : r_12.toInt = 0 := v_eq c_13
                refine lv_iconst (v := (-1)) hx hb dX7_passRoughly_95 (by decide) ?_
                exact kl_i (v := (-1)) hQQ hx hb hr hlocks hS dX7_passRoughly_96 ⟨ft_1, lB_1, fB_1, lu_12, fu_12, kPD_sub hP hD [0, 12, 13, 5, 6, 14, 15, 7, 8, 9, 1, 2, 10, 11, 3, 4] (by decide +kernel) rfl, hf1_0, by omega, Or.inr ⟨rfl, rg_no (Bf := Bc a f42 f43 f52 f53) hwr9 hby9 (fun _ => RQ_full hrq (by omega) (by omega))⟩⟩
            · have tc_10 : r_9.toInt = (-1) := v_eq c_10
              refine lv_ldc hx hb hown (hts (.constant RX7 73 (65533)) (List.mem_of_getElem? (i := 3) rfl)) dX7_passRoughly_79 ?_
              refine lv_goto (tgt := 89) hx hb dX7_passRoughly_81 (by decide) ?_
              refine kV_i (rest := []) (q0 := 0) (ci := 5) hcf (m_X5_add l dC dI cI cS H.size nd ad 300 l2 f2 65533 (by omega) (by omega)) kc_X5_add gX7_passRoughly_X5_add rfl rfl rfl ⟨Nat.le_of_ble_eq_true rfl, Nat.le_of_ble_eq_true rfl⟩ kX_t hK hP hD hS hA [8, 0] [1, 2, 3, 4, 5, 6, 7, 9, 10, 11, 12, 13, 14, 15] rfl (by decide +kernel) rfl rfl rfl hl rfl (Nat.le_of_ble_eq_true rfl) dX7_passRoughly_89 ⟨Nat.le_of_ble_eq_true rfl, Nat.le_of_ble_eq_true rfl⟩ (fun r_20 H locs hB hJ hSn => ?_)
              obtain ⟨lu_20, fu_20, ⟨hP1, hD1⟩, hf20_0, hf20_1, hf20_2⟩ := hB
              obtain ⟨hPn, hDn⟩ := hJ _ hP1 hD1 [(oP, .inr (7, [.ref oC, .ref nB, .int ft_1])), (a42, .inl (cI, 512, .inl f42)), (a43, .inl (cI, 512, .inl f43)), (a52, .inl (cI, 512, .inl f52)), (a53, .inl (cI, 512, .inl f53)), (nx, .inr (5, [.ref ax, .int lx])), (ax, .inl (cI, 300, .inl fx)), (oC, .inr (2, [.ref o4, .ref o5])), (o4, .inr (10, [.ref a41, .ref a42, .ref a43, .int l4])), (a41, .inl (cI, 256, .inl f41)), (o5, .inr (10, [.ref a51, .ref a52, .ref a53, .int l5])), (a51, .inl (cI, 256, .inl f51)), (nB, .inr (5, [.ref aB, .int lB_1])), (aB, .inl (cI, 2400, .inl fB_1)), (nd, .inr (5, [.ref ad, .int lu_20])), (ad, .inl (cI, 300, .inl fu_20))] rfl
              clear hP hD hS hJ hP1 hD1
              have hP := hPn
              have hD := hDn
              have hS := hSn
              clear hPn hDn hSn
              have hfl20 := F_add_c hf20_2
              refine lv_if_ne (tgt := 97) hx hb dX7_passRoughly_92 (by decide) (fun c_21 => ?_) (fun c_21 => ?_)
              · have tc_21 : ¬ r_20.toInt = 0 := v_ne c_21
                refine lv_iload hx hb dX7_passRoughly_97 (lv_at hl 2 rfl) ?_
                refine lv_iload hx hb dX7_passRoughly_99 (lv_at hl 0 rfl) ?_
                refine lv_iconst (v := (-1)) hx hb dX7_passRoughly_101 (by decide) ?_
                refine lv_icmp_ne (tgt := 109) hx hb dX7_passRoughly_102 (by decide) (fun c_22 => by exfalso; have tc_22 : ¬ r_9.toInt = (-1) := v_ne c_22; omega) (fun c_22 => ?_)
                have tc_22 : r_9.toInt = (-1) := v_eq c_22
                refine lv_iconst (v := 1) hx hb dX7_passRoughly_105 (by decide) ?_
                refine lv_goto (tgt := 110) hx hb dX7_passRoughly_106 (by decide) ?_
                refine lv_iadd hx hb dX7_passRoughly_110 ?_
                refine lv_topi (fun x_23 ex_23 => ?_)
                have tx_23 : x_23.toInt = mk.toInt + 1 := v_addR (l2 := 1) (h2 := 1) ex_23 g_mk (by decide) (by decide) (by decide)
                refine lv_istore (lv' := [(5, .int x_23), (7, .int r_9), (6, .int p_), (0, .ref oP), (1, .int a), (2, .int b), (3, .ref nx), (4, .ref nd)]) hx hb dX7_passRoughly_111 hl (by decide) rfl (fun ls hl => ?_)
                refine lv_iload hx hb dX7_passRoughly_113 (lv_at hl 2 rfl) ?_
                refine lv_iload hx hb dX7_passRoughly_115 (lv_at hl 1 rfl) ?_
                refine lv_iconst (v := (-1)) hx hb dX7_passRoughly_117 (by decide) ?_
                refine lv_icmp_ne (tgt := 125) hx hb dX7_passRoughly_118 (by decide) (fun c_24 => by exfalso; have tc_24 : ¬ r_9.toInt = (-1) := v_ne c_24; omega) (fun c_24 => ?_)
                have tc_24 : r_9.toInt = (-1) := v_eq c_24
                refine lv_iconst (v := 1) hx hb dX7_passRoughly_121 (by decide) ?_
                refine lv_goto (tgt := 134) hx hb dX7_passRoughly_122 (by decide) ?_
                refine lv_iadd hx hb dX7_passRoughly_134 ?_
                refine lv_topi (fun x_25 ex_25 => ?_)
                have tx_25 : x_25.toInt = p_.toInt + 1 := v_addR (l2 := 1) (h2 := 1) ex_25 g_p_ (by decide) (by decide) (by decide)
                refine lv_istore (lv' := [(6, .int x_25), (5, .int x_23), (7, .int r_9), (0, .ref oP), (1, .int a), (2, .int b), (3, .ref nx), (4, .ref nd)]) hx hb dX7_passRoughly_135 hl (by decide) rfl (fun ls hl => ?_)
                refine lv_goto (tgt := 36) hx hb dX7_passRoughly_137 (by decide) ?_
                exact ih_36 x_23 x_25 lu_20 fu_20 _ _ _ (ms_lt hm_36 (by show ((900 - x_25.toInt : Int)) < 900 - p_.toInt; omega) (by show (0 : Int) < 900 - p_.toInt; omega)) (by show 0 ≤ x_23.toInt ∧ x_23.toInt ≤ 300; omega) (by show 0 ≤ x_25.toInt ∧ x_25.toInt ≤ 900; omega) (by show 0 ≤ lu_20.toInt ∧ lu_20.toInt ≤ 300; omega) (by show x_25.toInt ≤ lB_1.toInt; omega) (RQ_s hrq (F_add_l hf20_2 (by omega)) (F_add_f hf20_2 (by omega)) (Or.inl ⟨F_dc_0 hf9_0 c_24, rfl, by omega, by omega⟩)) (by show 0 ≤ x_23.toInt ∧ x_23.toInt ≤ lu_20.toInt; omega) (hP.sub [15, 9, 11, 0, 13, 7, 8, 1, 2, 10, 3, 4, 5, 6, 12, 14] rfl) (hD.sub [15, 9, 11, 0, 13, 7, 8, 1, 2, 10, 3, 4, 5, 6, 12, 14] (by decide +kernel) rfl) hS (lv_sub hl [0, 1, 3, 4, 5, 6, 7] rfl)
              · have tc_21 : r_20.toInt = 0 := v_eq c_21
                refine lv_iconst (v := (-1)) hx hb dX7_passRoughly_95 (by decide) ?_
                exact kl_i (v := (-1)) hQQ hx hb hr hlocks hS dX7_passRoughly_96 ⟨ft_1, lB_1, fB_1, lu_20, fu_20, kPD_sub hP hD [0, 12, 13, 5, 6, 14, 15, 7, 8, 9, 1, 2, 10, 11, 3, 4] (by decide +kernel) rfl, hf1_0, by omega, Or.inr ⟨rfl, rg_no (Bf := Bc a f42 f43 f52 f53) hwr9 hby9 (fun _ => RQ_full hrq (by omega) (by omega))⟩⟩
      exact LOOP_36 _ 0 0 lu_5 fd _ _ _ (ms_s _) (by decide) (by decide) (by show 0 ≤ lu_5.toInt ∧ lu_5.toInt ≤ 300; omega) (by show 0 ≤ lB_1.toInt; omega) (RQ_0 rfl (by omega) rfl) (by show 0 ≤ 0 ∧ 0 ≤ lu_5.toInt; omega) hP hD hS (lv_sub hl [0, 1, 2, 3, 4, 5, 6] rfl)
    · have tc_4 : 900 < lB_1.toInt := v_nle c_4
      refine lv_iconst (v := (-1)) hx hb dX7_passRoughly_22 (by decide) ?_
      exact kl_i (v := (-1)) hQQ hx hb hr hlocks hS dX7_passRoughly_23 ⟨ft_1, lB_1, fB_1, ld, fd, kPD_sub hP hD [4, 15, 5, 13, 14, 0, 1, 6, 7, 2, 8, 9, 10, 3, 11, 12] (by decide +kernel) rfl, hf1_0, g_ld, by first | exact Or.inr ⟨rfl, rg_w0 (Bf := Bc a f42 f43 f52 f53) hf1_2 (by omega)⟩ | exact Or.inr ⟨rfl, rg_no (Bf := Bc a f42 f43 f52 f53) hwr9 hby9 (fun z => by omega)⟩⟩

theorem pr_1 {r l a b : Int32} {f f' L4 L5 : Nat → Int32} {Bf : Int32 → Int32} {n : Int} (h : F_pr r l f' a b L4 L5 Bf n f) (h0 : ¬ r = -1) (ha : okd a) (hb : okd b) : ∃ c : Nat, l.toInt = c ∧ rgP a b L4 L5 Bf n f c f' r.toInt := by
  rcases h with ⟨_, c, c1, c2⟩ | ⟨e, _⟩
  · exact ⟨c, c1, ha, hb, c2⟩
  · exact absurd e h0
theorem pr_0 {r l a b : Int32} {f f' L4 L5 : Nat → Int32} {Bf : Int32 → Int32} {n : Int} (h : F_pr r l f' a b L4 L5 Bf n f) (h0 : r = -1) : ∀ c fm v, ¬ rgP a b L4 L5 Bf n f c fm v := by
  rintro c fm v ⟨_, _, b4⟩
  rcases h with ⟨a1, _⟩ | ⟨_, a3⟩
  · exact v_nn a1 h0
  · exact a3 _ _ _ b4

set_option maxHeartbeats 40000000 in
set_option maxRecDepth 100000 in
theorem f_X11_rough (l : Launch) (dC : Nat → ClassId) (dI : Nat → Nat → Nat) (cI cS : ClassId) (sz : Nat) (oX : Nat) (nT : Nat) (nL : Nat) (nM : Nat) (oC : Nat) (oP : Nat) (oH : Nat) (oK : Nat) (oG : Nat) (oR : Nat) (oQ : Nat) (oW : Nat) (aL : Nat) (aM : Nat) (nB : Nat) (aB : Nat) (o4 : Nat) (o5 : Nat) (a41 : Nat) (a42 : Nat) (a43 : Nat) (a51 : Nat) (a52 : Nat) (a53 : Nat) (g1 : Nat) (g2 : Nat) (nw : Nat) (w1 : Nat) (w2 : Nat) (w3 : Nat) (o7 : Nat) (o8 : Nat) (o9 : Nat) (w4 : Nat) (w5 : Nat) (w6 : Nat) (w7 : Nat) (fa : Int32) (lL : Int32) (fL : Nat → Int32) (lM : Int32) (fM : Nat → Int32) (ft : Int32) (lB : Int32) (fB : Nat → Int32) (l4 : Int32) (f41 : Nat → Int32) (f42 : Nat → Int32) (f43 : Nat → Int32) (l5 : Int32) (f51 : Nat → Int32) (f52 : Nat → Int32) (f53 : Nat → Int32) (gn : Int32) (lG : Int32) (fG1 : Nat → Int32) (fG2 : Nat → Int32) (ke : Int32) (tl : Int32) (fsh : Int32) (wi : Int32) (ri : Int32) (fm : Int32) (lm : Int32) (a : Int32) (b : Int32) (g_lL : 0 ≤ lL.toInt ∧ lL.toInt ≤ 300) (g_lM : 0 ≤ lM.toInt ∧ lM.toInt ≤ 300) (g_lB : 0 ≤ lB.toInt ∧ lB.toInt ≤ 2400) (g_gn : 0 ≤ gn.toInt ∧ gn.toInt ≤ 19) (g_lG : 0 ≤ lG.toInt ∧ lG.toInt ≤ 20) (g_fG2 : rg 0 300 fG2) (g_ke : 0 ≤ ke.toInt ∧ ke.toInt ≤ 200) (g_fsh : 0 ≤ fsh.toInt ∧ fsh.toInt ≤ 1) (g_fm : -1 ≤ fm.toInt ∧ fm.toInt ≤ 800) (g_lm : -1 ≤ lm.toInt ∧ lm.toInt ≤ 800) (hlt : prg lL.toInt 0 65535 fL) (hT4 : HT 512 511 hsT f42 f43) (ho4 : (occ f43 512 : Int) ≤ 511) (hT5 : HT 512 511 hsT f52 f53) (ho5 : (occ f53 512 : Int) ≤ 511) (hL4 : prg 256 (-1) 65535 f41) (hL5 : prg 256 (-1) 65535 f51) (hBr : ∀ cd : Int32, okB (Bc cd f42 f43 f52 f53)) : kMi l yX11_rough wsX11_rough ({ frames := 5, cells := 0, slots := 0, locals := 121 } : Room) [.ref oX, .int a, .int b] sz (dC, dI) vwCl [(cI, .int), (cS, .short)] [(oX, .inr (11, [.ref nT, .ref nL, .ref nM, .ref oC, .ref oP, .ref oH, .ref oK, .ref oG, .ref oR, .ref oQ, .ref oW, .int fa])), (nL, .inr (5, [.ref aL, .int lL])), (aL, .inl (cI, 300, .inl fL)), (nM, .inr (5, [.ref aM, .int lM])), (aM, .inl (cI, 300, .inl fM)), (oP, .inr (7, [.ref oC, .ref nB, .int ft])), (nB, .inr (5, [.ref aB, .int lB])), (aB, .inl (cI, 2400, .inl fB)), (oC, .inr (2, [.ref o4, .ref o5])), (o4, .inr (10, [.ref a41, .ref a42, .ref a43, .int l4])), (a41, .inl (cI, 256, .inl f41)), (a42, .inl (cI, 512, .inl f42)), (a43, .inl (cI, 512, .inl f43)), (o5, .inr (10, [.ref a51, .ref a52, .ref a53, .int l5])), (a51, .inl (cI, 256, .inl f51)), (a52, .inl (cI, 512, .inl f52)), (a53, .inl (cI, 512, .inl f53)), (oG, .inr (0, [.ref g1, .ref g2, .int gn, .int lG])), (g1, .inl (cI, 6000, .inl fG1)), (g2, .inl (cI, 20, .inl fG2)), (oW, .inr (1, [.ref oC, .ref oK, .ref nw, .ref w1, .ref w2, .ref w3, .ref o7, .ref o8, .ref o9, .ref w4, .ref w5, .ref w6, .ref w7, .int ke, .int tl, .int fsh, .int wi, .int ri, .int fm, .int lm]))] (va_Nw (.methodLinkNest RX2 52 yX11_isLetter "TextMender")) 0 0 (fun (A : Nat → Prop) (r : Int32) (hh9 : Heap) => ∃ (fa' : Int32) (ft' : Int32) (lB' : Int32) (fB' : Nat → Int32) (lM' : Int32) (fM' : Nat → Int32) (lL' : Int32) (fL' : Nat → Int32) (fsh' : Int32) (gn' : Int32) (lG' : Int32) (fG1' : Nat → Int32) (fG2' : Nat → Int32), kPD (dC, dI) vwCl A [(oX, .inr (11, [.ref nT, .ref nL, .ref nM, .ref oC, .ref oP, .ref oH, .ref oK, .ref oG, .ref oR, .ref oQ, .ref oW, .int fa'])), (nL, .inr (5, [.ref aL, .int lL'])), (aL, .inl (cI, 300, .inl fL')), (nM, .inr (5, [.ref aM, .int lM'])), (aM, .inl (cI, 300, .inl fM')), (oP, .inr (7, [.ref oC, .ref nB, .int ft'])), (nB, .inr (5, [.ref aB, .int lB'])), (aB, .inl (cI, 2400, .inl fB')), (oC, .inr (2, [.ref o4, .ref o5])), (o4, .inr (10, [.ref a41, .ref a42, .ref a43, .int l4])), (a41, .inl (cI, 256, .inl f41)), (a42, .inl (cI, 512, .inl f42)), (a43, .inl (cI, 512, .inl f43)), (o5, .inr (10, [.ref a51, .ref a52, .ref a53, .int l5])), (a51, .inl (cI, 256, .inl f51)), (a52, .inl (cI, 512, .inl f52)), (a53, .inl (cI, 512, .inl f53)), (oG, .inr (0, [.ref g1, .ref g2, .int gn', .int lG'])), (g1, .inl (cI, 6000, .inl fG1')), (g2, .inl (cI, 20, .inl fG2')), (oW, .inr (1, [.ref oC, .ref oK, .ref nw, .ref w1, .ref w2, .ref w3, .ref o7, .ref o8, .ref o9, .ref w4, .ref w5, .ref w6, .ref w7, .int ke, .int tl, .int fsh', .int wi, .int ri, .int fm, .int lm]))] hh9 ∧ (0 ≤ lB'.toInt ∧ lB'.toInt ≤ 2400) ∧ (0 ≤ lM'.toInt ∧ lM'.toInt ≤ 300) ∧ (0 ≤ lL'.toInt ∧ lL'.toInt ≤ 300) ∧ (0 ≤ fsh'.toInt ∧ fsh'.toInt ≤ 1) ∧ (0 ≤ gn'.toInt ∧ gn'.toInt ≤ 19) ∧ (0 ≤ lG'.toInt ∧ lG'.toInt ≤ 20) ∧ (rg 0 300 fG2') ∧ (OC (-1) r fsh fsh' gn gn' lG lG' lL lL' fG1 fG1' fG2 fG2' fL fL' (rgP a b f41 f51 (Bc a f42 f43 f52 f53) lL.toInt fL))) := by
  refine kMi_of (cc := cX11_rough) (maxL := 4) (ret := (some .int)) (lv := [(0, .ref oX), (1, .int a), (2, .int b)]) (by decide +kernel) rfl rfl (Nat.le_of_ble_eq_true rfl) ?_
  intro p e s m below meth c A QQ ls hx hb hr hts hml hown hlocks hA hQQ hK hX hP hD hS hl
  have hown : s.vm.findClass RX11 = some m.cls := hown
  have hcf := k_cf hx hb hml hown hts
  have hN52 := hX
  have in_X11 : ∀ w ∈ wsX110, w ∈ wsX11_rough := fun _ h => List.mem_cons_of_mem _ (List.mem_append_left _ (List.mem_append_left _ (List.mem_append_left _ (List.mem_append_left _ (List.mem_append_left _ (List.mem_append_left _ (List.mem_append_right _ (h))))))))
  replace g_lM := hid g_lM
  replace g_lB := hid g_lB
  replace g_ke := hid g_ke
  replace g_lm := hid g_lm
  refine lv_aload_n hx hb dX11_rough_0 rfl (lv_at hl 0 rfl) ?_
  refine lv_iconst (v := (-1)) hx hb dX11_rough_1 (by decide) ?_
  refine va_put (D := (dC, dI)) (ci := 11) (v := .int (-1)) (ty := .int) (C := RX11) (T := TX11) (N := 12) hx hb hts in_X11 tyX11 tyX11_ok nmX11 hown hK hP hD hS 0 rfl rfl 11 (by decide) (hts (.fieldLink RX11 90 "TextMender" "fault" "I") (List.mem_of_getElem? (i := 1) rfl)) (fun _ h9 => h9) rfl (by decide +kernel) rfl rfl (Nat.le_of_ble_eq_true rfl) dX11_rough_2 (kW (wn := [(oX, .inr (11, [.ref nT, .ref nL, .ref nM, .ref oC, .ref oP, .ref oH, .ref oK, .ref oG, .ref oR, .ref oQ, .ref oW, .int (-1)])), (nL, .inr (5, [.ref aL, .int lL])), (aL, .inl (cI, 300, .inl fL)), (nM, .inr (5, [.ref aM, .int lM])), (aM, .inl (cI, 300, .inl fM)), (oP, .inr (7, [.ref oC, .ref nB, .int ft])), (nB, .inr (5, [.ref aB, .int lB])), (aB, .inl (cI, 2400, .inl fB)), (oC, .inr (2, [.ref o4, .ref o5])), (o4, .inr (10, [.ref a41, .ref a42, .ref a43, .int l4])), (a41, .inl (cI, 256, .inl f41)), (a42, .inl (cI, 512, .inl f42)), (a43, .inl (cI, 512, .inl f43)), (o5, .inr (10, [.ref a51, .ref a52, .ref a53, .int l5])), (a51, .inl (cI, 256, .inl f51)), (a52, .inl (cI, 512, .inl f52)), (a53, .inl (cI, 512, .inl f53)), (oG, .inr (0, [.ref g1, .ref g2, .int gn, .int lG])), (g1, .inl (cI, 6000, .inl fG1)), (g2, .inl (cI, 20, .inl fG2)), (oW, .inr (1, [.ref oC, .ref oK, .ref nw, .ref w1, .ref w2, .ref w3, .ref o7, .ref o8, .ref o9, .ref w4, .ref w5, .ref w6, .ref w7, .int ke, .int tl, .int fsh, .int wi, .int ri, .int fm, .int lm]))]) rfl (fun H locs hPn hDn hSn => ?_))
  clear hP hD hS
  have hP := hPn
  have hD := hDn
  have hS := hSn
  clear hPn hDn hSn
  refine lv_iload_n hx hb dX11_rough_5 rfl (lv_at hl 1 rfl) ?_
  refine kS_i (rest := []) hcf (m_X2_known l dC dI cI cS H.size a ) kc_X2_known gX11_rough_X2_known rfl rfl ⟨Nat.le_of_ble_eq_true rfl, Nat.le_of_ble_eq_true rfl⟩ kX_t hK hP hD hS hA [] [0, 1, 2, 3, 4, 5, 6, 7, 8, 9, 10, 11, 12, 13, 14, 15, 16, 17, 18, 19, 20] rfl (by decide +kernel) rfl hl rfl (Nat.le_of_ble_eq_true rfl) dX11_rough_6 ⟨Nat.le_of_ble_eq_true rfl, Nat.le_of_ble_eq_true rfl⟩ (fun r_1 H locs hB hJ hSn => ?_)
  obtain ⟨⟨hP1, hD1⟩, hf1_0, hf1_1⟩ := hB
  obtain ⟨hPn, hDn⟩ := hJ _ hP1 hD1 [(oX, .inr (11, [.ref nT, .ref nL, .ref nM, .ref oC, .ref oP, .ref oH, .ref oK, .ref oG, .ref oR, .ref oQ, .ref oW, .int (-1)])), (nL, .inr (5, [.ref aL, .int lL])), (aL, .inl (cI, 300, .inl fL)), (nM, .inr (5, [.ref aM, .int lM])), (aM, .inl (cI, 300, .inl fM)), (oP, .inr (7, [.ref oC, .ref nB, .int ft])), (nB, .inr (5, [.ref aB, .int lB])), (aB, .inl (cI, 2400, .inl fB)), (oC, .inr (2, [.ref o4, .ref o5])), (o4, .inr (10, [.ref a41, .ref a42, .ref a43, .int l4])), (a41, .inl (cI, 256, .inl f41)), (a42, .inl (cI, 512, .inl f42)), (a43, .inl (cI, 512, .inl f43)), (o5, .inr (10, [.ref a51, .ref a52, .ref a53, .int l5])), (a51, .inl (cI, 256, .inl f51)), (a52, .inl (cI, 512, .inl f52)), (a53, .inl (cI, 512, .inl f53)), (oG, .inr (0, [.ref g1, .ref g2, .int gn, .int lG])), (g1, .inl (cI, 6000, .inl fG1)), (g2, .inl (cI, 20, .inl fG2)), (oW, .inr (1, [.ref oC, .ref oK, .ref nw, .ref w1, .ref w2, .ref w3, .ref o7, .ref o8, .ref o9, .ref w4, .ref w5, .ref w6, .ref w7, .int ke, .int tl, .int fsh, .int wi, .int ri, .int fm, .int lm]))] rfl
  clear hP hD hS hJ hP1 hD1
  have hP := hPn
  have hD := hDn
  have hS := hSn
  clear hPn hDn hSn
  refine lv_if_eq (tgt := 19) hx hb dX11_rough_9 (by decide) (fun c_2 => ?_) (fun c_2 => ?_)
  · have tc_2 : r_1.toInt = 0 := v_eq c_2
    refine lv_iconst (v := (-1)) hx hb dX11_rough_19 (by decide) ?_
    exact kl_i (v := (-1)) hQQ hx hb hr hlocks hS dX11_rough_20 ⟨(-1), ft, lB, fB, lM, fM, lL, fL, fsh, gn, lG, fG1, fG2, ⟨hP, hD⟩, g_lB, g_lM, g_lL, g_fsh, g_gn, g_lG, g_fG2, OC_n rfl (fun c fm v h => by have h1 := h.1; have h2 := h.2.1; unfold okd at h1 h2; omega)⟩
  · have tc_2 : ¬ r_1.toInt = 0 := v_ne c_2
    refine lv_iload_n hx hb dX11_rough_12 rfl (lv_at hl 2 rfl) ?_
    refine kS_i (rest := []) hcf (m_X2_known l dC dI cI cS H.size b ) kc_X2_known gX11_rough_X2_known rfl rfl ⟨Nat.le_of_ble_eq_true rfl, Nat.le_of_ble_eq_true rfl⟩ kX_t hK hP hD hS hA [] [0, 1, 2, 3, 4, 5, 6, 7, 8, 9, 10, 11, 12, 13, 14, 15, 16, 17, 18, 19, 20] rfl (by decide +kernel) rfl hl rfl (Nat.le_of_ble_eq_true rfl) dX11_rough_13 ⟨Nat.le_of_ble_eq_true rfl, Nat.le_of_ble_eq_true rfl⟩ (fun r_3 H locs hB hJ hSn => ?_)
    obtain ⟨⟨hP1, hD1⟩, hf3_0, hf3_1⟩ := hB
    obtain ⟨hPn, hDn⟩ := hJ _ hP1 hD1 [(oX, .inr (11, [.ref nT, .ref nL, .ref nM, .ref oC, .ref oP, .ref oH, .ref oK, .ref oG, .ref oR, .ref oQ, .ref oW, .int (-1)])), (nL, .inr (5, [.ref aL, .int lL])), (aL, .inl (cI, 300, .inl fL)), (nM, .inr (5, [.ref aM, .int lM])), (aM, .inl (cI, 300, .inl fM)), (oP, .inr (7, [.ref oC, .ref nB, .int ft])), (nB, .inr (5, [.ref aB, .int lB])), (aB, .inl (cI, 2400, .inl fB)), (oC, .inr (2, [.ref o4, .ref o5])), (o4, .inr (10, [.ref a41, .ref a42, .ref a43, .int l4])), (a41, .inl (cI, 256, .inl f41)), (a42, .inl (cI, 512, .inl f42)), (a43, .inl (cI, 512, .inl f43)), (o5, .inr (10, [.ref a51, .ref a52, .ref a53, .int l5])), (a51, .inl (cI, 256, .inl f51)), (a52, .inl (cI, 512, .inl f52)), (a53, .inl (cI, 512, .inl f53)), (oG, .inr (0, [.ref g1, .ref g2, .int gn, .int lG])), (g1, .inl (cI, 6000, .inl fG1)), (g2, .inl (cI, 20, .inl fG2)), (oW, .inr (1, [.ref oC, .ref oK, .ref nw, .ref w1, .ref w2, .ref w3, .ref o7, .ref o8, .ref o9, .ref w4, .ref w5, .ref w6, .ref w7, .int ke, .int tl, .int fsh, .int wi, .int ri, .int fm, .int lm]))] rfl
    clear hP hD hS hJ hP1 hD1
    have hP := hPn
    have hD := hDn
    have hS := hSn
    clear hPn hDn hSn
    refine lv_if_ne (tgt := 21) hx hb dX11_rough_16 (by decide) (fun c_4 => ?_) (fun c_4 => ?_)
    · have tc_4 : ¬ r_3.toInt = 0 := v_ne c_4
      refine lv_aload_n hx hb dX11_rough_21 rfl (lv_at hl 0 rfl) ?_
      refine va_get (D := (dC, dI)) (ci := 11) (v := .ref oP) (C := RX11) (T := TX11) (N := 12) hx hb hts in_X11 hown hK hP 0 rfl rfl 4 (by decide) (hts (.fieldLink RX11 44 "TextMender" "passage" "LTextMender$Passage;") (List.mem_of_getElem? (i := 2) rfl)) (fun _ h9 => h9) rfl dX11_rough_22 ?_
      refine lv_iload_n hx hb dX11_rough_25 rfl (lv_at hl 1 rfl) ?_
      refine lv_iload_n hx hb dX11_rough_26 rfl (lv_at hl 2 rfl) ?_
      refine lv_aload_n hx hb dX11_rough_27 rfl (lv_at hl 0 rfl) ?_
      refine va_get (D := (dC, dI)) (ci := 11) (v := .ref nL) (C := RX11) (T := TX11) (N := 12) hx hb hts in_X11 hown hK hP 0 rfl rfl 1 (by decide) (hts (.fieldLink RX11 34 "TextMender" "letters" "LTextMender$Numbers;") (List.mem_of_getElem? (i := 3) rfl)) (fun _ h9 => h9) rfl dX11_rough_28 ?_
      refine lv_aload_n hx hb dX11_rough_31 rfl (lv_at hl 0 rfl) ?_
      refine va_get (D := (dC, dI)) (ci := 11) (v := .ref nM) (C := RX11) (T := TX11) (N := 12) hx hb hts in_X11 hown hK hP 0 rfl rfl 2 (by decide) (hts (.fieldLink RX11 37 "TextMender" "made" "LTextMender$Numbers;") (List.mem_of_getElem? (i := 4) rfl)) (fun _ h9 => h9) rfl dX11_rough_32 ?_
      refine kV_i (rest := []) (q0 := 0) (ci := 7) hcf (f_X7_passRoughly l dC dI cI cS H.size oP nL nM oC nB aB aL aM o4 o5 a41 a42 a43 a51 a52 a53 ft lB fB lL fL lM fM l4 f41 f42 f43 l5 f51 f52 f53 a b (g_lB) (g_lL) (g_lM) (hlt) (hT4) (by omega) (hT5) (by omega) (hL4) (hL5) (hBr a)) kc_X7_passRoughly gX11_rough_X7_passRoughly rfl rfl rfl ⟨Nat.le_of_ble_eq_true rfl, Nat.le_of_ble_eq_true rfl⟩ (kX_1 hN52) hK hP hD hS hA [5, 6, 7, 1, 2, 3, 4, 8, 9, 10, 11, 12, 13, 14, 15, 16] [0, 17, 18, 19, 20] rfl (by decide +kernel) rfl rfl rfl hl rfl (Nat.le_of_ble_eq_true rfl) dX11_rough_35 ⟨Nat.le_of_ble_eq_true rfl, Nat.le_of_ble_eq_true rfl⟩ (fun r_5 H locs hB hJ hSn => ?_)
      obtain ⟨ft_5, lB_5, fB_5, ld_5, fd_5, ⟨hP1, hD1⟩, hf5_0, hf5_1, hf5_2⟩ := hB
      obtain ⟨hPn, hDn⟩ := hJ _ hP1 hD1 [(oX, .inr (11, [.ref nT, .ref nL, .ref nM, .ref oC, .ref oP, .ref oH, .ref oK, .ref oG, .ref oR, .ref oQ, .ref oW, .int (-1)])), (oG, .inr (0, [.ref g1, .ref g2, .int gn, .int lG])), (g1, .inl (cI, 6000, .inl fG1)), (g2, .inl (cI, 20, .inl fG2)), (oW, .inr (1, [.ref oC, .ref oK, .ref nw, .ref w1, .ref w2, .ref w3, .ref o7, .ref o8, .ref o9, .ref w4, .ref w5, .ref w6, .ref w7, .int ke, .int tl, .int fsh, .int wi, .int ri, .int fm, .int lm])), (oP, .inr (7, [.ref oC, .ref nB, .int ft_5])), (nB, .inr (5, [.ref aB, .int lB_5])), (aB, .inl (cI, 2400, .inl fB_5)), (nL, .inr (5, [.ref aL, .int lL])), (aL, .inl (cI, 300, .inl fL)), (nM, .inr (5, [.ref aM, .int ld_5])), (aM, .inl (cI, 300, .inl fd_5)), (oC, .inr (2, [.ref o4, .ref o5])), (o4, .inr (10, [.ref a41, .ref a42, .ref a43, .int l4])), (a41, .inl (cI, 256, .inl f41)), (a42, .inl (cI, 512, .inl f42)), (a43, .inl (cI, 512, .inl f43)), (o5, .inr (10, [.ref a51, .ref a52, .ref a53, .int l5])), (a51, .inl (cI, 256, .inl f51)), (a52, .inl (cI, 512, .inl f52)), (a53, .inl (cI, 512, .inl f53))] rfl
      clear hP hD hS hJ hP1 hD1
      have hP := hPn
      have hD := hDn
      have hS := hSn
      clear hPn hDn hSn
      refine lv_istore_n (lv' := [(3, .int r_5), (0, .ref oX), (1, .int a), (2, .int b)]) hx hb dX11_rough_38 rfl hl (by decide) rfl (fun ls hl => ?_)
      refine lv_aload_n hx hb dX11_rough_39 rfl (lv_at hl 1 rfl) ?_
      refine lv_aload_n hx hb dX11_rough_40 rfl (lv_at hl 1 rfl) ?_
      refine va_get (D := (dC, dI)) (ci := 11) (v := .ref oP) (C := RX11) (T := TX11) (N := 12) hx hb hts in_X11 hown hK hP 0 rfl rfl 4 (by decide) (hts (.fieldLink RX11 44 "TextMender" "passage" "LTextMender$Passage;") (List.mem_of_getElem? (i := 2) rfl)) (fun _ h9 => h9) rfl dX11_rough_41 ?_
      refine kV_i (rest := [.ref oX]) (q0 := 0) (ci := 7) hcf (m_X7_fault l dC dI cI cS H.size oP oC nB ft_5 ) kc_X7_fault gX11_rough_X7_fault rfl rfl rfl ⟨Nat.le_of_ble_eq_true rfl, Nat.le_of_ble_eq_true rfl⟩ kX_t hK hP hD hS hA [5] [0, 1, 2, 3, 4, 6, 7, 8, 9, 10, 11, 12, 13, 14, 15, 16, 17, 18, 19, 20] rfl (by decide +kernel) rfl rfl rfl hl rfl (Nat.le_of_ble_eq_true rfl) dX11_rough_44 ⟨Nat.le_of_ble_eq_true rfl, Nat.le_of_ble_eq_true rfl⟩ (fun r_6 H locs hB hJ hSn => ?_)
      obtain ⟨⟨hP1, hD1⟩, hf6_0⟩ := hB
      obtain ⟨hPn, hDn⟩ := hJ _ hP1 hD1 [(oX, .inr (11, [.ref nT, .ref nL, .ref nM, .ref oC, .ref oP, .ref oH, .ref oK, .ref oG, .ref oR, .ref oQ, .ref oW, .int (-1)])), (oG, .inr (0, [.ref g1, .ref g2, .int gn, .int lG])), (g1, .inl (cI, 6000, .inl fG1)), (g2, .inl (cI, 20, .inl fG2)), (oW, .inr (1, [.ref oC, .ref oK, .ref nw, .ref w1, .ref w2, .ref w3, .ref o7, .ref o8, .ref o9, .ref w4, .ref w5, .ref w6, .ref w7, .int ke, .int tl, .int fsh, .int wi, .int ri, .int fm, .int lm])), (nB, .inr (5, [.ref aB, .int lB_5])), (aB, .inl (cI, 2400, .inl fB_5)), (nL, .inr (5, [.ref aL, .int lL])), (aL, .inl (cI, 300, .inl fL)), (nM, .inr (5, [.ref aM, .int ld_5])), (aM, .inl (cI, 300, .inl fd_5)), (oC, .inr (2, [.ref o4, .ref o5])), (o4, .inr (10, [.ref a41, .ref a42, .ref a43, .int l4])), (a41, .inl (cI, 256, .inl f41)), (a42, .inl (cI, 512, .inl f42)), (a43, .inl (cI, 512, .inl f43)), (o5, .inr (10, [.ref a51, .ref a52, .ref a53, .int l5])), (a51, .inl (cI, 256, .inl f51)), (a52, .inl (cI, 512, .inl f52)), (a53, .inl (cI, 512, .inl f53)), (oP, .inr (7, [.ref oC, .ref nB, .int ft_5]))] rfl
      clear hP hD hS hJ hP1 hD1
      have hP := hPn
      have hD := hDn
      have hS := hSn
      clear hPn hDn hSn
      rw [hf6_0]
      refine va_put (D := (dC, dI)) (ci := 11) (v := .int ft_5) (ty := .int) (C := RX11) (T := TX11) (N := 12) hx hb hts in_X11 tyX11 tyX11_ok nmX11 hown hK hP hD hS 0 rfl rfl 11 (by decide) (hts (.fieldLink RX11 90 "TextMender" "fault" "I") (List.mem_of_getElem? (i := 1) rfl)) (fun _ h9 => h9) rfl (by decide +kernel) rfl rfl (Nat.le_of_ble_eq_true rfl) dX11_rough_47 (kW (wn := [(oX, .inr (11, [.ref nT, .ref nL, .ref nM, .ref oC, .ref oP, .ref oH, .ref oK, .ref oG, .ref oR, .ref oQ, .ref oW, .int ft_5])), (oG, .inr (0, [.ref g1, .ref g2, .int gn, .int lG])), (g1, .inl (cI, 6000, .inl fG1)), (g2, .inl (cI, 20, .inl fG2)), (oW, .inr (1, [.ref oC, .ref oK, .ref nw, .ref w1, .ref w2, .ref w3, .ref o7, .ref o8, .ref o9, .ref w4, .ref w5, .ref w6, .ref w7, .int ke, .int tl, .int fsh, .int wi, .int ri, .int fm, .int lm])), (nB, .inr (5, [.ref aB, .int lB_5])), (aB, .inl (cI, 2400, .inl fB_5)), (nL, .inr (5, [.ref aL, .int lL])), (aL, .inl (cI, 300, .inl fL)), (nM, .inr (5, [.ref aM, .int ld_5])), (aM, .inl (cI, 300, .inl fd_5)), (oC, .inr (2, [.ref o4, .ref o5])), (o4, .inr (10, [.ref a41, .ref a42, .ref a43, .int l4])), (a41, .inl (cI, 256, .inl f41)), (a42, .inl (cI, 512, .inl f42)), (a43, .inl (cI, 512, .inl f43)), (o5, .inr (10, [.ref a51, .ref a52, .ref a53, .int l5])), (a51, .inl (cI, 256, .inl f51)), (a52, .inl (cI, 512, .inl f52)), (a53, .inl (cI, 512, .inl f53)), (oP, .inr (7, [.ref oC, .ref nB, .int ft_5]))]) rfl (fun H locs hPn hDn hSn => ?_))
      clear hP hD hS
      have hP := hPn
      have hD := hDn
      have hS := hSn
      clear hPn hDn hSn
      refine lv_iload_n hx hb dX11_rough_50 rfl (lv_at hl 0 rfl) ?_
      refine lv_iconst (v := (-1)) hx hb dX11_rough_51 (by decide) ?_
      refine lv_icmp_ne (tgt := 57) hx hb dX11_rough_52 (by decide) (fun c_7 => ?_) (fun c_7 => ?_)
      · have tc_7 : ¬ r_5.toInt = (-1) := v_ne c_7
        refine lv_aload_n hx hb dX11_rough_57 rfl (lv_at hl 1 rfl) ?_
        refine lv_aload_n hx hb dX11_rough_58 rfl (lv_at hl 1 rfl) ?_
        refine va_get (D := (dC, dI)) (ci := 11) (v := .ref nM) (C := RX11) (T := TX11) (N := 12) hx hb hts in_X11 hown hK hP 0 rfl rfl 2 (by decide) (hts (.fieldLink RX11 37 "TextMender" "made" "LTextMender$Numbers;") (List.mem_of_getElem? (i := 4) rfl)) (fun _ h9 => h9) rfl dX11_rough_59 ?_
        refine kV_i (rest := []) (q0 := 0) (ci := 11) hcf (f_X11_bec l dC dI cI cS H.size oX nM nT nL oC oP oH oK oG oR oQ oW aL aM g1 g2 nw w1 w2 w3 o7 o8 o9 w4 w5 w6 w7 ft_5 lL fL ld_5 fd_5 gn lG fG1 fG2 ke tl fsh wi ri fm lm (g_lL) (hf5_1) (g_gn) (g_lG) (g_fG2) (g_ke) (g_fsh) (g_fm) (g_lm)) kc_X11_become gX11_rough_X11_become rfl rfl rfl ⟨Nat.le_of_ble_eq_true rfl, Nat.le_of_ble_eq_true rfl⟩ kX_t hK hP hD hS hA [0, 7, 8, 9, 10, 1, 2, 3, 4] [5, 6, 11, 12, 13, 14, 15, 16, 17, 18, 19, 20] rfl (by decide +kernel) rfl rfl rfl hl rfl (Nat.le_of_ble_eq_true rfl) dX11_rough_62 ⟨Nat.le_of_ble_eq_true rfl, Nat.le_of_ble_eq_true rfl⟩ (fun r_8 H locs hB hJ hSn => ?_)
        obtain ⟨lL_8, fL_8, fsh_8, gn_8, lG_8, fG1_8, fG2_8, ⟨hP1, hD1⟩, hf8_0, hf8_1, hf8_2, hf8_3, hf8_4, hf8_5, hf8_6, hf8_7⟩ := hB
        obtain ⟨hPn, hDn⟩ := hJ _ hP1 hD1 [(nB, .inr (5, [.ref aB, .int lB_5])), (aB, .inl (cI, 2400, .inl fB_5)), (oC, .inr (2, [.ref o4, .ref o5])), (o4, .inr (10, [.ref a41, .ref a42, .ref a43, .int l4])), (a41, .inl (cI, 256, .inl f41)), (a42, .inl (cI, 512, .inl f42)), (a43, .inl (cI, 512, .inl f43)), (o5, .inr (10, [.ref a51, .ref a52, .ref a53, .int l5])), (a51, .inl (cI, 256, .inl f51)), (a52, .inl (cI, 512, .inl f52)), (a53, .inl (cI, 512, .inl f53)), (oP, .inr (7, [.ref oC, .ref nB, .int ft_5])), (oX, .inr (11, [.ref nT, .ref nL, .ref nM, .ref oC, .ref oP, .ref oH, .ref oK, .ref oG, .ref oR, .ref oQ, .ref oW, .int ft_5])), (nL, .inr (5, [.ref aL, .int lL_8])), (aL, .inl (cI, 300, .inl fL_8)), (nM, .inr (5, [.ref aM, .int ld_5])), (aM, .inl (cI, 300, .inl fd_5)), (oG, .inr (0, [.ref g1, .ref g2, .int gn_8, .int lG_8])), (g1, .inl (cI, 6000, .inl fG1_8)), (g2, .inl (cI, 20, .inl fG2_8)), (oW, .inr (1, [.ref oC, .ref oK, .ref nw, .ref w1, .ref w2, .ref w3, .ref o7, .ref o8, .ref o9, .ref w4, .ref w5, .ref w6, .ref w7, .int ke, .int tl, .int fsh_8, .int wi, .int ri, .int fm, .int lm]))] rfl
        clear hP hD hS hJ hP1 hD1
        have hP := hPn
        have hD := hDn
        have hS := hSn
        clear hPn hDn hSn
        refine lv_pop hx hb dX11_rough_65 rfl ?_
        refine lv_iload_n hx hb dX11_rough_66 rfl (lv_at hl 0 rfl) ?_
        exact kl_i (v := r_5) hQQ hx hb hr hlocks hS dX11_rough_67 ⟨ft_5, ft_5, lB_5, fB_5, ld_5, fd_5, lL_8, fL_8, fsh_8, gn_8, lG_8, fG1_8, fG2_8, kPD_sub hP hD [12, 13, 14, 15, 16, 11, 0, 1, 2, 3, 4, 5, 6, 7, 8, 9, 10, 17, 18, 19, 20] (by decide +kernel) rfl, hf5_0, hf5_1, hf8_0, hf8_1, hf8_2, hf8_3, hf8_4, OC_y (pr_1 hf5_2 c_7 (by unfold okd; omega) (by unfold okd; omega)) hf8_6 hf8_7⟩
      · have tc_7 : r_5.toInt = (-1) := v_eq c_7
        refine lv_iconst (v := (-1)) hx hb dX11_rough_55 (by decide) ?_
        exact kl_i (v := (-1)) hQQ hx hb hr hlocks hS dX11_rough_56 ⟨ft_5, ft_5, lB_5, fB_5, ld_5, fd_5, lL, fL, fsh, gn, lG, fG1, fG2, kPD_sub hP hD [0, 7, 8, 9, 10, 20, 5, 6, 11, 12, 13, 14, 15, 16, 17, 18, 19, 1, 2, 3, 4] (by decide +kernel) rfl, hf5_0, hf5_1, g_lL, g_fsh, g_gn, g_lG, g_fG2, OC_n rfl (pr_0 hf5_2 c_7)⟩
    · have tc_4 : r_3.toInt = 0 := v_eq c_4
      refine lv_iconst (v := (-1)) hx hb dX11_rough_19 (by decide) ?_
      exact kl_i (v := (-1)) hQQ hx hb hr hlocks hS dX11_rough_20 ⟨(-1), ft, lB, fB, lM, fM, lL, fL, fsh, gn, lG, fG1, fG2, ⟨hP, hD⟩, g_lB, g_lM, g_lL, g_fsh, g_gn, g_lG, g_fG2, OC_n rfl (fun c fm v h => by have h1 := h.1; have h2 := h.2.1; unfold okd at h1 h2; omega)⟩

end

/-! 59o.a.rows -/
section
set_option maxRecDepth 100000 in
theorem dA276_cX12_rough : kDec cX12_rough [(0, .aload_n 0, 1), (1, .iconst 0, 1), (2, .putfield 85, 3), (5, .aload_n 0, 1), (6, .iconst (-1), 1), (7, .putfield 55, 3), (10, .iload_n 1, 1), (11, .invokestatic 158, 3), (14, .ifCond .eq 10, 3), (24, .iconst (-1), 1), (25, .ireturn, 1), (17, .iload_n 2, 1), (18, .invokestatic 158, 3), (21, .ifCond .ne 5, 3), (26, .aload_n 0, 1), (27, .iload_n 1, 1), (28, .aload_n 0, 1), (29, .getfield 16, 3), (32, .aload_n 0, 1), (33, .getfield 13, 3), (36, .iconst 0, 1), (37, .iaload, 1), (38, .invokevirtual 127, 3), (41, .ifCond .ne 13, 3)] = true := by decide +kernel
theorem dX12_rough_0 : decode cX12_rough 0 = .ok (.aload_n 0, 1) := kDec_at dA276_cX12_rough 0 rfl
theorem dX12_rough_1 : decode cX12_rough 1 = .ok (.iconst 0, 1) := kDec_at dA276_cX12_rough 1 rfl
theorem dX12_rough_2 : decode cX12_rough 2 = .ok (.putfield 85, 3) := kDec_at dA276_cX12_rough 2 rfl
theorem dX12_rough_5 : decode cX12_rough 5 = .ok (.aload_n 0, 1) := kDec_at dA276_cX12_rough 3 rfl
theorem dX12_rough_6 : decode cX12_rough 6 = .ok (.iconst (-1), 1) := kDec_at dA276_cX12_rough 4 rfl
theorem dX12_rough_7 : decode cX12_rough 7 = .ok (.putfield 55, 3) := kDec_at dA276_cX12_rough 5 rfl
theorem dX12_rough_10 : decode cX12_rough 10 = .ok (.iload_n 1, 1) := kDec_at dA276_cX12_rough 6 rfl
theorem dX12_rough_11 : decode cX12_rough 11 = .ok (.invokestatic 158, 3) := kDec_at dA276_cX12_rough 7 rfl
theorem dX12_rough_14 : decode cX12_rough 14 = .ok (.ifCond .eq 10, 3) := kDec_at dA276_cX12_rough 8 rfl
theorem dX12_rough_24 : decode cX12_rough 24 = .ok (.iconst (-1), 1) := kDec_at dA276_cX12_rough 9 rfl
theorem dX12_rough_25 : decode cX12_rough 25 = .ok (.ireturn, 1) := kDec_at dA276_cX12_rough 10 rfl
theorem dX12_rough_17 : decode cX12_rough 17 = .ok (.iload_n 2, 1) := kDec_at dA276_cX12_rough 11 rfl
theorem dX12_rough_18 : decode cX12_rough 18 = .ok (.invokestatic 158, 3) := kDec_at dA276_cX12_rough 12 rfl
theorem dX12_rough_21 : decode cX12_rough 21 = .ok (.ifCond .ne 5, 3) := kDec_at dA276_cX12_rough 13 rfl
theorem dX12_rough_26 : decode cX12_rough 26 = .ok (.aload_n 0, 1) := kDec_at dA276_cX12_rough 14 rfl
theorem dX12_rough_27 : decode cX12_rough 27 = .ok (.iload_n 1, 1) := kDec_at dA276_cX12_rough 15 rfl
theorem dX12_rough_28 : decode cX12_rough 28 = .ok (.aload_n 0, 1) := kDec_at dA276_cX12_rough 16 rfl
theorem dX12_rough_29 : decode cX12_rough 29 = .ok (.getfield 16, 3) := kDec_at dA276_cX12_rough 17 rfl
theorem dX12_rough_32 : decode cX12_rough 32 = .ok (.aload_n 0, 1) := kDec_at dA276_cX12_rough 18 rfl
theorem dX12_rough_33 : decode cX12_rough 33 = .ok (.getfield 13, 3) := kDec_at dA276_cX12_rough 19 rfl
theorem dX12_rough_36 : decode cX12_rough 36 = .ok (.iconst 0, 1) := kDec_at dA276_cX12_rough 20 rfl
theorem dX12_rough_37 : decode cX12_rough 37 = .ok (.iaload, 1) := kDec_at dA276_cX12_rough 21 rfl
theorem dX12_rough_38 : decode cX12_rough 38 = .ok (.invokevirtual 127, 3) := kDec_at dA276_cX12_rough 22 rfl
theorem dX12_rough_41 : decode cX12_rough 41 = .ok (.ifCond .ne 13, 3) := kDec_at dA276_cX12_rough 23 rfl
set_option maxRecDepth 20000 in
theorem ggX12_rough_X12_isCode : GoodIn wsX12_rough wsX12_isCode := goodIn_r _ [14] rfl (by decide +kernel)
set_option maxRecDepth 20000 in
theorem gX12_rough_X12_isCode : GoodIn wsX12_rough (va_wsS RX12 158 yX12_isCode wsX12_isCode) := goodIn_app (goodIn_r _ [11, 12, 13] rfl (by decide +kernel)) ggX12_rough_X12_isCode
set_option maxRecDepth 20000 in
theorem ggX12_rough_X12_write : GoodIn wsX12_rough wsX12_write := goodIn_r _ [18, 6, 5, 19, 20, 21, 13, 22, 23, 24, 25, 26, 27, 28, 29, 54, 55, 56, 57, 58, 59, 60, 61, 62, 63, 64, 65, 66, 67, 68, 69, 70, 71, 72, 73, 74, 75, 76, 77, 78, 79, 80, 81, 82, 83, 84, 85, 86, 87, 88, 89, 90, 91, 92, 93] rfl (by decide +kernel)
set_option maxRecDepth 20000 in
theorem gX12_rough_X12_write : GoodIn wsX12_rough (wsV RX12 127 RX12 yX12_write wsX12_write) := goodIn_app (goodIn_r _ [15, 16, 17, 13] rfl (by decide +kernel)) ggX12_rough_X12_write
set_option maxRecDepth 100000 in
theorem dA277_cX12_rough : kDec cX12_rough [(54, .aload_n 0, 1), (55, .getfield 91, 3), (58, .sipush 900, 3), (61, .if_icmp .le 5, 3), (66, .iconst 0, 1), (67, .istore_n 3, 1), (68, .iconst 0, 1), (69, .istore 4, 2), (71, .aload_n 0, 1), (72, .iconst 0, 1), (73, .putfield 119, 3), (76, .iload 4, 2), (78, .aload_n 0, 1), (79, .getfield 91, 3), (82, .if_icmp .ge 77, 3), (159, .aload_n 0, 1), (160, .getfield 119, 3), (163, .sipush 300, 3), (166, .if_icmp .le 5, 3), (171, .aload_n 0, 1), (172, .aload_n 0, 1), (173, .getfield 61, 3), (176, .aload_n 0, 1), (177, .getfield 119, 3)] = true := by decide +kernel
theorem dX12_rough_54 : decode cX12_rough 54 = .ok (.aload_n 0, 1) := kDec_at dA277_cX12_rough 0 rfl
theorem dX12_rough_55 : decode cX12_rough 55 = .ok (.getfield 91, 3) := kDec_at dA277_cX12_rough 1 rfl
theorem dX12_rough_58 : decode cX12_rough 58 = .ok (.sipush 900, 3) := kDec_at dA277_cX12_rough 2 rfl
theorem dX12_rough_61 : decode cX12_rough 61 = .ok (.if_icmp .le 5, 3) := kDec_at dA277_cX12_rough 3 rfl
theorem dX12_rough_66 : decode cX12_rough 66 = .ok (.iconst 0, 1) := kDec_at dA277_cX12_rough 4 rfl
theorem dX12_rough_67 : decode cX12_rough 67 = .ok (.istore_n 3, 1) := kDec_at dA277_cX12_rough 5 rfl
theorem dX12_rough_68 : decode cX12_rough 68 = .ok (.iconst 0, 1) := kDec_at dA277_cX12_rough 6 rfl
theorem dX12_rough_69 : decode cX12_rough 69 = .ok (.istore 4, 2) := kDec_at dA277_cX12_rough 7 rfl
theorem dX12_rough_71 : decode cX12_rough 71 = .ok (.aload_n 0, 1) := kDec_at dA277_cX12_rough 8 rfl
theorem dX12_rough_72 : decode cX12_rough 72 = .ok (.iconst 0, 1) := kDec_at dA277_cX12_rough 9 rfl
theorem dX12_rough_73 : decode cX12_rough 73 = .ok (.putfield 119, 3) := kDec_at dA277_cX12_rough 10 rfl
theorem dX12_rough_76 : decode cX12_rough 76 = .ok (.iload 4, 2) := kDec_at dA277_cX12_rough 11 rfl
theorem dX12_rough_78 : decode cX12_rough 78 = .ok (.aload_n 0, 1) := kDec_at dA277_cX12_rough 12 rfl
theorem dX12_rough_79 : decode cX12_rough 79 = .ok (.getfield 91, 3) := kDec_at dA277_cX12_rough 13 rfl
theorem dX12_rough_82 : decode cX12_rough 82 = .ok (.if_icmp .ge 77, 3) := kDec_at dA277_cX12_rough 14 rfl
theorem dX12_rough_159 : decode cX12_rough 159 = .ok (.aload_n 0, 1) := kDec_at dA277_cX12_rough 15 rfl
theorem dX12_rough_160 : decode cX12_rough 160 = .ok (.getfield 119, 3) := kDec_at dA277_cX12_rough 16 rfl
theorem dX12_rough_163 : decode cX12_rough 163 = .ok (.sipush 300, 3) := kDec_at dA277_cX12_rough 17 rfl
theorem dX12_rough_166 : decode cX12_rough 166 = .ok (.if_icmp .le 5, 3) := kDec_at dA277_cX12_rough 18 rfl
theorem dX12_rough_171 : decode cX12_rough 171 = .ok (.aload_n 0, 1) := kDec_at dA277_cX12_rough 19 rfl
theorem dX12_rough_172 : decode cX12_rough 172 = .ok (.aload_n 0, 1) := kDec_at dA277_cX12_rough 20 rfl
theorem dX12_rough_173 : decode cX12_rough 173 = .ok (.getfield 61, 3) := kDec_at dA277_cX12_rough 21 rfl
theorem dX12_rough_176 : decode cX12_rough 176 = .ok (.aload_n 0, 1) := kDec_at dA277_cX12_rough 22 rfl
theorem dX12_rough_177 : decode cX12_rough 177 = .ok (.getfield 119, 3) := kDec_at dA277_cX12_rough 23 rfl
set_option maxRecDepth 20000 in
theorem ggX12_rough_X12_become : GoodIn wsX12_rough wsX12_become := goodIn_r _ [50, 51, 52, 4, 3, 53, 54, 55, 56, 57, 58, 59, 60, 61, 62, 63, 64, 65, 66, 67, 68, 69, 70, 71, 72, 73, 74, 75, 76, 77, 78, 79, 80, 81, 82, 83, 84, 85, 86, 87, 88, 89, 90, 91, 92, 93] rfl (by decide +kernel)
set_option maxRecDepth 20000 in
theorem gX12_rough_X12_become : GoodIn wsX12_rough (wsV RX12 154 RX12 yX12_become wsX12_become) := goodIn_app (goodIn_r _ [47, 48, 49, 13] rfl (by decide +kernel)) ggX12_rough_X12_become
set_option maxRecDepth 100000 in
theorem dA278_cX12_rough : kDec cX12_rough [(180, .invokevirtual 154, 3), (183, .iload_n 3, 1), (184, .ireturn, 1), (169, .iconst (-1), 1), (170, .ireturn, 1), (85, .aload_n 0, 1), (86, .iload_n 2, 1), (87, .iload 4, 2), (89, .invokevirtual 122, 3), (92, .istore 5, 2), (94, .aload_n 0, 1), (95, .getfield 61, 3), (98, .aload_n 0, 1), (99, .getfield 119, 3), (102, .iload 5, 2), (104, .ifCond .ne 8, 3), (112, .aload_n 0, 1), (113, .getfield 105, 3), (116, .iastore, 1), (117, .aload_n 0, 1), (118, .dup, 1), (119, .getfield 119, 3), (122, .iconst 1, 1), (123, .iadd, 1)] = true := by decide +kernel
theorem dX12_rough_180 : decode cX12_rough 180 = .ok (.invokevirtual 154, 3) := kDec_at dA278_cX12_rough 0 rfl
theorem dX12_rough_183 : decode cX12_rough 183 = .ok (.iload_n 3, 1) := kDec_at dA278_cX12_rough 1 rfl
theorem dX12_rough_184 : decode cX12_rough 184 = .ok (.ireturn, 1) := kDec_at dA278_cX12_rough 2 rfl
theorem dX12_rough_169 : decode cX12_rough 169 = .ok (.iconst (-1), 1) := kDec_at dA278_cX12_rough 3 rfl
theorem dX12_rough_170 : decode cX12_rough 170 = .ok (.ireturn, 1) := kDec_at dA278_cX12_rough 4 rfl
theorem dX12_rough_85 : decode cX12_rough 85 = .ok (.aload_n 0, 1) := kDec_at dA278_cX12_rough 5 rfl
theorem dX12_rough_86 : decode cX12_rough 86 = .ok (.iload_n 2, 1) := kDec_at dA278_cX12_rough 6 rfl
theorem dX12_rough_87 : decode cX12_rough 87 = .ok (.iload 4, 2) := kDec_at dA278_cX12_rough 7 rfl
theorem dX12_rough_89 : decode cX12_rough 89 = .ok (.invokevirtual 122, 3) := kDec_at dA278_cX12_rough 8 rfl
theorem dX12_rough_92 : decode cX12_rough 92 = .ok (.istore 5, 2) := kDec_at dA278_cX12_rough 9 rfl
theorem dX12_rough_94 : decode cX12_rough 94 = .ok (.aload_n 0, 1) := kDec_at dA278_cX12_rough 10 rfl
theorem dX12_rough_95 : decode cX12_rough 95 = .ok (.getfield 61, 3) := kDec_at dA278_cX12_rough 11 rfl
theorem dX12_rough_98 : decode cX12_rough 98 = .ok (.aload_n 0, 1) := kDec_at dA278_cX12_rough 12 rfl
theorem dX12_rough_99 : decode cX12_rough 99 = .ok (.getfield 119, 3) := kDec_at dA278_cX12_rough 13 rfl
theorem dX12_rough_102 : decode cX12_rough 102 = .ok (.iload 5, 2) := kDec_at dA278_cX12_rough 14 rfl
theorem dX12_rough_104 : decode cX12_rough 104 = .ok (.ifCond .ne 8, 3) := kDec_at dA278_cX12_rough 15 rfl
theorem dX12_rough_112 : decode cX12_rough 112 = .ok (.aload_n 0, 1) := kDec_at dA278_cX12_rough 16 rfl
theorem dX12_rough_113 : decode cX12_rough 113 = .ok (.getfield 105, 3) := kDec_at dA278_cX12_rough 17 rfl
theorem dX12_rough_116 : decode cX12_rough 116 = .ok (.iastore, 1) := kDec_at dA278_cX12_rough 18 rfl
theorem dX12_rough_117 : decode cX12_rough 117 = .ok (.aload_n 0, 1) := kDec_at dA278_cX12_rough 19 rfl
theorem dX12_rough_118 : decode cX12_rough 118 = .ok (.dup, 1) := kDec_at dA278_cX12_rough 20 rfl
theorem dX12_rough_119 : decode cX12_rough 119 = .ok (.getfield 119, 3) := kDec_at dA278_cX12_rough 21 rfl
theorem dX12_rough_122 : decode cX12_rough 122 = .ok (.iconst 1, 1) := kDec_at dA278_cX12_rough 22 rfl
theorem dX12_rough_123 : decode cX12_rough 123 = .ok (.iadd, 1) := kDec_at dA278_cX12_rough 23 rfl
set_option maxRecDepth 20000 in
theorem ggX12_rough_X12_readAt : GoodIn wsX12_rough wsX12_readAt := goodIn_r _ [33, 29, 10, 34, 35, 36, 37, 13, 38, 6, 39, 40, 41, 42, 43, 44, 24, 45, 46, 54, 55, 56, 57, 58, 59, 60, 61, 62, 63, 64, 65, 66, 67, 68, 69, 70, 71, 72, 73, 74, 75, 76, 77, 78, 79, 80, 81, 82, 83, 84, 85, 86, 87, 88, 89, 90, 91, 92, 93] rfl (by decide +kernel)
set_option maxRecDepth 20000 in
theorem gX12_rough_X12_readAt : GoodIn wsX12_rough (wsV RX12 122 RX12 yX12_readAt wsX12_readAt) := goodIn_app (goodIn_r _ [30, 31, 32, 13] rfl (by decide +kernel)) ggX12_rough_X12_readAt
set_option maxRecDepth 100000 in
theorem dA279_cX12_rough : kDec cX12_rough [(124, .putfield 119, 3), (127, .iload_n 3, 1), (128, .iload 5, 2), (130, .ifCond .ne 7, 3), (137, .iconst 0, 1), (138, .iadd, 1), (139, .istore_n 3, 1), (140, .iload 4, 2), (142, .iload 5, 2), (144, .ifCond .ne 7, 3), (151, .iload 5, 2), (153, .iadd, 1), (154, .istore 4, 2), (156, .goto (-80), 3), (107, .ldc 126, 2), (109, .goto 7, 3), (133, .iconst 1, 1), (134, .goto 4, 3), (147, .iconst 1, 1), (148, .goto 5, 3), (64, .iconst (-1), 1), (65, .ireturn, 1), (44, .aload_n 0, 1), (45, .aload_n 0, 1)] = true := by decide +kernel
theorem dX12_rough_124 : decode cX12_rough 124 = .ok (.putfield 119, 3) := kDec_at dA279_cX12_rough 0 rfl
theorem dX12_rough_127 : decode cX12_rough 127 = .ok (.iload_n 3, 1) := kDec_at dA279_cX12_rough 1 rfl
theorem dX12_rough_128 : decode cX12_rough 128 = .ok (.iload 5, 2) := kDec_at dA279_cX12_rough 2 rfl
theorem dX12_rough_130 : decode cX12_rough 130 = .ok (.ifCond .ne 7, 3) := kDec_at dA279_cX12_rough 3 rfl
theorem dX12_rough_137 : decode cX12_rough 137 = .ok (.iconst 0, 1) := kDec_at dA279_cX12_rough 4 rfl
theorem dX12_rough_138 : decode cX12_rough 138 = .ok (.iadd, 1) := kDec_at dA279_cX12_rough 5 rfl
theorem dX12_rough_139 : decode cX12_rough 139 = .ok (.istore_n 3, 1) := kDec_at dA279_cX12_rough 6 rfl
theorem dX12_rough_140 : decode cX12_rough 140 = .ok (.iload 4, 2) := kDec_at dA279_cX12_rough 7 rfl
theorem dX12_rough_142 : decode cX12_rough 142 = .ok (.iload 5, 2) := kDec_at dA279_cX12_rough 8 rfl
theorem dX12_rough_144 : decode cX12_rough 144 = .ok (.ifCond .ne 7, 3) := kDec_at dA279_cX12_rough 9 rfl
theorem dX12_rough_151 : decode cX12_rough 151 = .ok (.iload 5, 2) := kDec_at dA279_cX12_rough 10 rfl
theorem dX12_rough_153 : decode cX12_rough 153 = .ok (.iadd, 1) := kDec_at dA279_cX12_rough 11 rfl
theorem dX12_rough_154 : decode cX12_rough 154 = .ok (.istore 4, 2) := kDec_at dA279_cX12_rough 12 rfl
theorem dX12_rough_156 : decode cX12_rough 156 = .ok (.goto (-80), 3) := kDec_at dA279_cX12_rough 13 rfl
theorem dX12_rough_107 : decode cX12_rough 107 = .ok (.ldc 126, 2) := kDec_at dA279_cX12_rough 14 rfl
theorem dX12_rough_109 : decode cX12_rough 109 = .ok (.goto 7, 3) := kDec_at dA279_cX12_rough 15 rfl
theorem dX12_rough_133 : decode cX12_rough 133 = .ok (.iconst 1, 1) := kDec_at dA279_cX12_rough 16 rfl
theorem dX12_rough_134 : decode cX12_rough 134 = .ok (.goto 4, 3) := kDec_at dA279_cX12_rough 17 rfl
theorem dX12_rough_147 : decode cX12_rough 147 = .ok (.iconst 1, 1) := kDec_at dA279_cX12_rough 18 rfl
theorem dX12_rough_148 : decode cX12_rough 148 = .ok (.goto 5, 3) := kDec_at dA279_cX12_rough 19 rfl
theorem dX12_rough_64 : decode cX12_rough 64 = .ok (.iconst (-1), 1) := kDec_at dA279_cX12_rough 20 rfl
theorem dX12_rough_65 : decode cX12_rough 65 = .ok (.ireturn, 1) := kDec_at dA279_cX12_rough 21 rfl
theorem dX12_rough_44 : decode cX12_rough 44 = .ok (.aload_n 0, 1) := kDec_at dA279_cX12_rough 22 rfl
theorem dX12_rough_45 : decode cX12_rough 45 = .ok (.aload_n 0, 1) := kDec_at dA279_cX12_rough 23 rfl
set_option maxRecDepth 100000 in
theorem dA280_cX12_rough : kDec cX12_rough [(46, .getfield 102, 3), (49, .putfield 55, 3), (52, .iconst (-1), 1), (53, .ireturn, 1)] = true := by decide +kernel
theorem dX12_rough_46 : decode cX12_rough 46 = .ok (.getfield 102, 3) := kDec_at dA280_cX12_rough 0 rfl
theorem dX12_rough_49 : decode cX12_rough 49 = .ok (.putfield 55, 3) := kDec_at dA280_cX12_rough 1 rfl
theorem dX12_rough_52 : decode cX12_rough 52 = .ok (.iconst (-1), 1) := kDec_at dA280_cX12_rough 2 rfl
theorem dX12_rough_53 : decode cX12_rough 53 = .ok (.ireturn, 1) := kDec_at dA280_cX12_rough 3 rfl

end

/-! 59o.rough -/
section
theorem rg_x {a b : Int32} {f L4 L5 : Nat → Int32} {Bf : Int32 → Int32} {n n' : Int} (h : ∀ c fm v, ¬ RG a b L4 L5 Bf n.toNat f c fm v) (e : n = n') : ∀ c fm v, ¬ RG a b L4 L5 Bf n'.toNat f c fm v := by rw [← e]; exact h
theorem rg_y2 {a b l mk : Int32} {f f' L4 L5 : Nat → Int32} {Bf : Int32 → Int32} {n n' : Int} (h : ∃ c : Nat, l.toInt = c ∧ RG a b L4 L5 Bf n.toNat f c f' mk.toInt) (ha : okd a) (hb : okd b) (e : n = n') : ∃ c : Nat, l.toInt = c ∧ rgP a b L4 L5 Bf n' f c f' mk.toInt := by
  obtain ⟨c, c1, c2⟩ := h
  rw [e] at c2
  exact ⟨c, c1, ha, hb, c2⟩

set_option maxHeartbeats 40000000 in
set_option maxRecDepth 100000 in
theorem f_X12_rough (l : Launch) (dC : Nat → ClassId) (dI : Nat → Nat → Nat) (cI cS : ClassId) (sz : Nat) (oM : Nat) (mT : Nat) (mS : Nat) (mX : Nat) (mL : Nat) (mB : Nat) (mD : Nat) (m1 : Nat) (m2 : Nat) (mR : Nat) (x1 : Nat) (x2 : Nat) (x3 : Nat) (mH : Nat) (mY : Nat) (mE : Nat) (mW : Nat) (mO : Nat) (y1 : Nat) (y2 : Nat) (y3 : Nat) (y4 : Nat) (mZ : Nat) (zt : Int32) (zp : Int32) (zf : Int32) (zh : Int32) (zr : Int32) (zc : Int32) (zy : Int32) (za : Int32) (zb : Int32) (zs : Int32) (zq : Int32) (zw : Int32) (ze : Int32) (zn : Int32) (zm : Int32) (zl : Int32) (zk : Int32) (zd : Int32) (eY : Nat → Int32) (eB : Nat → Int32) (eL : Nat → Int32) (eE : Nat → Int32) (eS : Nat → Int32) (eX : Nat → Int32) (a : Int32) (b : Int32) (g_zt : 0 ≤ zt.toInt ∧ zt.toInt ≤ 900) (g_zp : 0 ≤ zp.toInt ∧ zp.toInt ≤ 20) (g_zf : 0 ≤ zf.toInt ∧ zf.toInt ≤ 19) (g_zh : 0 ≤ zh.toInt ∧ zh.toInt ≤ 6) (g_zr : 0 ≤ zr.toInt ∧ zr.toInt ≤ 258) (g_zc : 0 ≤ zc.toInt ∧ zc.toInt ≤ 300) (g_zy : 0 ≤ zy.toInt ∧ zy.toInt ≤ 65536) (g_za : 0 ≤ za.toInt ∧ za.toInt ≤ 5) (g_zb : 0 ≤ zb.toInt ∧ zb.toInt ≤ 5) (g_zs : 0 ≤ zs.toInt ∧ zs.toInt ≤ 2000000) (g_zq : -1 ≤ zq.toInt ∧ zq.toInt ≤ 2000000) (g_zn : 0 ≤ zn.toInt ∧ zn.toInt ≤ 2600) (g_zm : 0 ≤ zm.toInt ∧ zm.toInt ≤ 2600) (g_zk : 0 ≤ zk.toInt ∧ zk.toInt ≤ 300) (g_eY : rg 0 255 eY) (g_eB : rg (-1) 255 eB) (g_eL : rg (-1) 65535 eL) (g_eE : rg 0 65535 eE) (g_eS : rg 0 300 eS) (g_eX : rg 0 65535 eX) (hzs : zs.toInt ≤ 1000000) : kMi l yX12_rough wsX12_rough ({ frames := 3, cells := 0, slots := 0, locals := 68 } : Room) [.ref oM, .int a, .int b] sz (dC, dI) vwCl [(cI, .int), (cS, .short)] [(oM, .inr (12, [.ref mT, .int zt, .ref mS, .ref mX, .int zp, .int zf, .ref mL, .ref mB, .ref mD, .ref m1, .ref m2, .int zh, .ref mR, .int zr, .ref x1, .ref x2, .ref x3, .int zc, .ref mH, .int zy, .int za, .int zb, .int zs, .int zq, .int zw, .int ze, .ref mY, .int zn, .ref mE, .int zm, .int zl, .ref mW, .int zk, .ref mO, .int zd, .ref y1, .ref y2, .ref y3, .ref y4, .ref mZ])), (mY, .inl (cI, 2600, .inl eY)), (mB, .inl (cS, 131072, .inl eB)), (mL, .inl (cI, 512, .inl eL)), (mE, .inl (cI, 2600, .inl eE)), (mS, .inl (cI, 21, .inl eS)), (mX, .inl (cI, 6300, .inl eX))] (fun _ => True) 0 0 (fun (A : Nat → Prop) (r : Int32) (hh9 : Heap) => ∃ (ze' : Int32) (zw' : Int32) (zn' : Int32) (eY' : Nat → Int32) (zd' : Int32) (zm' : Int32) (zl' : Int32) (eE' : Nat → Int32) (zp' : Int32) (zf' : Int32) (zs' : Int32) (eS' : Nat → Int32) (eX' : Nat → Int32), kPD (dC, dI) vwCl A [(oM, .inr (12, [.ref mT, .int zt, .ref mS, .ref mX, .int zp', .int zf', .ref mL, .ref mB, .ref mD, .ref m1, .ref m2, .int zh, .ref mR, .int zr, .ref x1, .ref x2, .ref x3, .int zc, .ref mH, .int zy, .int za, .int zb, .int zs', .int zq, .int zw', .int ze', .ref mY, .int zn', .ref mE, .int zm', .int zl', .ref mW, .int zk, .ref mO, .int zd', .ref y1, .ref y2, .ref y3, .ref y4, .ref mZ])), (mY, .inl (cI, 2600, .inl eY')), (mB, .inl (cS, 131072, .inl eB)), (mL, .inl (cI, 512, .inl eL)), (mE, .inl (cI, 2600, .inl eE')), (mS, .inl (cI, 21, .inl eS')), (mX, .inl (cI, 6300, .inl eX'))] hh9 ∧ (0 ≤ zn'.toInt ∧ zn'.toInt ≤ 2600) ∧ (rg 0 255 eY') ∧ (0 ≤ zm'.toInt ∧ zm'.toInt ≤ 2600) ∧ (rg 0 65535 eE') ∧ (0 ≤ zp'.toInt ∧ zp'.toInt ≤ 20) ∧ (0 ≤ zf'.toInt ∧ zf'.toInt ≤ 19) ∧ (0 ≤ zs'.toInt ∧ zs'.toInt ≤ 2000000) ∧ (rg 0 300 eS') ∧ (rg 0 65535 eX') ∧ (zs'.toInt ≤ zs.toInt + 1 ∧ zs.toInt ≤ zs'.toInt) ∧ (F_st zs zs' eX eX' eS eS') ∧ (OR (-1) r zs zs' zp zp' zf zf' eS eS' eX eX' (rgP a b (fun k => eL k) (fun k => eL (256 + k)) (Br a eB) (eS 0).toInt eX))) := by
  refine kMi_of (cc := cX12_rough) (maxL := 6) (ret := (some .int)) (lv := [(0, .ref oM), (1, .int a), (2, .int b)]) (by decide +kernel) rfl rfl (Nat.le_of_ble_eq_true rfl) ?_
  intro p e s m below meth c A QQ ls hx hb hr hts hml hown hlocks hA hQQ hK hX hP hD hS hl
  have hown : s.vm.findClass RX12 = some m.cls := hown
  have hcf := k_cf hx hb hml hown hts
  have in_X12 : ∀ w ∈ wsX120, w ∈ wsX12_rough := fun _ h => List.mem_cons_of_mem _ (List.mem_append_right _ (h))
  replace g_zn := hid g_zn
  replace g_zm := hid g_zm
  refine lv_aload_n hx hb dX12_rough_0 rfl (lv_at hl 0 rfl) ?_
  refine lv_iconst (v := 0) hx hb dX12_rough_1 (by decide) ?_
  refine va_put (D := (dC, dI)) (ci := 12) (v := .int 0) (ty := .int) (C := RX12) (T := TX12) (N := 40) hx hb hts in_X12 tyX12 tyX12_ok nmX12 hown hK hP hD hS 0 rfl rfl 25 (by decide) (hts (.fieldLink RX12 85 "TextMenderModel" "thrown" "I") (List.mem_of_getElem? (i := 1) rfl)) (fun _ h9 => h9) rfl (by decide +kernel) rfl rfl (Nat.le_of_ble_eq_true rfl) dX12_rough_2 (kW (wn := [(oM, .inr (12, [.ref mT, .int zt, .ref mS, .ref mX, .int zp, .int zf, .ref mL, .ref mB, .ref mD, .ref m1, .ref m2, .int zh, .ref mR, .int zr, .ref x1, .ref x2, .ref x3, .int zc, .ref mH, .int zy, .int za, .int zb, .int zs, .int zq, .int zw, .int 0, .ref mY, .int zn, .ref mE, .int zm, .int zl, .ref mW, .int zk, .ref mO, .int zd, .ref y1, .ref y2, .ref y3, .ref y4, .ref mZ])), (mY, .inl (cI, 2600, .inl eY)), (mB, .inl (cS, 131072, .inl eB)), (mL, .inl (cI, 512, .inl eL)), (mE, .inl (cI, 2600, .inl eE)), (mS, .inl (cI, 21, .inl eS)), (mX, .inl (cI, 6300, .inl eX))]) rfl (fun H locs hPn hDn hSn => ?_))
  clear hP hD hS
  have hP := hPn
  have hD := hDn
  have hS := hSn
  clear hPn hDn hSn
  refine lv_aload_n hx hb dX12_rough_5 rfl (lv_at hl 0 rfl) ?_
  refine lv_iconst (v := (-1)) hx hb dX12_rough_6 (by decide) ?_
  refine va_put (D := (dC, dI)) (ci := 12) (v := .int (-1)) (ty := .int) (C := RX12) (T := TX12) (N := 40) hx hb hts in_X12 tyX12 tyX12_ok nmX12 hown hK hP hD hS 0 rfl rfl 24 (by decide) (hts (.fieldLink RX12 55 "TextMenderModel" "where" "I") (List.mem_of_getElem? (i := 2) rfl)) (fun _ h9 => h9) rfl (by decide +kernel) rfl rfl (Nat.le_of_ble_eq_true rfl) dX12_rough_7 (kW (wn := [(oM, .inr (12, [.ref mT, .int zt, .ref mS, .ref mX, .int zp, .int zf, .ref mL, .ref mB, .ref mD, .ref m1, .ref m2, .int zh, .ref mR, .int zr, .ref x1, .ref x2, .ref x3, .int zc, .ref mH, .int zy, .int za, .int zb, .int zs, .int zq, .int (-1), .int 0, .ref mY, .int zn, .ref mE, .int zm, .int zl, .ref mW, .int zk, .ref mO, .int zd, .ref y1, .ref y2, .ref y3, .ref y4, .ref mZ])), (mY, .inl (cI, 2600, .inl eY)), (mB, .inl (cS, 131072, .inl eB)), (mL, .inl (cI, 512, .inl eL)), (mE, .inl (cI, 2600, .inl eE)), (mS, .inl (cI, 21, .inl eS)), (mX, .inl (cI, 6300, .inl eX))]) rfl (fun H locs hPn hDn hSn => ?_))
  clear hP hD hS
  have hP := hPn
  have hD := hDn
  have hS := hSn
  clear hPn hDn hSn
  refine lv_iload_n hx hb dX12_rough_10 rfl (lv_at hl 1 rfl) ?_
  refine kS_i (rest := []) hcf (m_X12_isCode l dC dI cI cS H.size a ) kc_X12_isCode gX12_rough_X12_isCode rfl rfl ⟨Nat.le_of_ble_eq_true rfl, Nat.le_of_ble_eq_true rfl⟩ kX_t hK hP hD hS hA [] [0, 1, 2, 3, 4, 5, 6] rfl (by decide +kernel) rfl hl rfl (Nat.le_of_ble_eq_true rfl) dX12_rough_11 ⟨Nat.le_of_ble_eq_true rfl, Nat.le_of_ble_eq_true rfl⟩ (fun r_1 H locs hB hJ hSn => ?_)
  obtain ⟨⟨hP1, hD1⟩, hf1_0, hf1_1⟩ := hB
  obtain ⟨hPn, hDn⟩ := hJ _ hP1 hD1 [(oM, .inr (12, [.ref mT, .int zt, .ref mS, .ref mX, .int zp, .int zf, .ref mL, .ref mB, .ref mD, .ref m1, .ref m2, .int zh, .ref mR, .int zr, .ref x1, .ref x2, .ref x3, .int zc, .ref mH, .int zy, .int za, .int zb, .int zs, .int zq, .int (-1), .int 0, .ref mY, .int zn, .ref mE, .int zm, .int zl, .ref mW, .int zk, .ref mO, .int zd, .ref y1, .ref y2, .ref y3, .ref y4, .ref mZ])), (mY, .inl (cI, 2600, .inl eY)), (mB, .inl (cS, 131072, .inl eB)), (mL, .inl (cI, 512, .inl eL)), (mE, .inl (cI, 2600, .inl eE)), (mS, .inl (cI, 21, .inl eS)), (mX, .inl (cI, 6300, .inl eX))] rfl
  clear hP hD hS hJ hP1 hD1
  have hP := hPn
  have hD := hDn
  have hS := hSn
  clear hPn hDn hSn
  refine lv_if_eq (tgt := 24) hx hb dX12_rough_14 (by decide) (fun c_2 => ?_) (fun c_2 => ?_)
  · have tc_2 : r_1.toInt = 0 := v_eq c_2
    refine lv_iconst (v := (-1)) hx hb dX12_rough_24 (by decide) ?_
    exact kl_i (v := (-1)) hQQ hx hb hr hlocks hS dX12_rough_25 ⟨0, (-1), zn, eY, zd, zm, zl, eE, zp, zf, zs, eS, eX, ⟨hP, hD⟩, g_zn, g_eY, g_zm, g_eE, g_zp, g_zf, g_zs, g_eS, g_eX, by show zs.toInt ≤ zs.toInt + 1 ∧ zs.toInt ≤ zs.toInt; omega, by first | exact Or.inl (by omega) | exact Or.inr ⟨rfl, rfl, rfl⟩, OR_n rfl (fun c fm v h => by have h1 := h.1; have h2 := h.2.1; unfold okd at h1 h2; omega)⟩
  · have tc_2 : ¬ r_1.toInt = 0 := v_ne c_2
    refine lv_iload_n hx hb dX12_rough_17 rfl (lv_at hl 2 rfl) ?_
    refine kS_i (rest := []) hcf (m_X12_isCode l dC dI cI cS H.size b ) kc_X12_isCode gX12_rough_X12_isCode rfl rfl ⟨Nat.le_of_ble_eq_true rfl, Nat.le_of_ble_eq_true rfl⟩ kX_t hK hP hD hS hA [] [0, 1, 2, 3, 4, 5, 6] rfl (by decide +kernel) rfl hl rfl (Nat.le_of_ble_eq_true rfl) dX12_rough_18 ⟨Nat.le_of_ble_eq_true rfl, Nat.le_of_ble_eq_true rfl⟩ (fun r_3 H locs hB hJ hSn => ?_)
    obtain ⟨⟨hP1, hD1⟩, hf3_0, hf3_1⟩ := hB
    obtain ⟨hPn, hDn⟩ := hJ _ hP1 hD1 [(oM, .inr (12, [.ref mT, .int zt, .ref mS, .ref mX, .int zp, .int zf, .ref mL, .ref mB, .ref mD, .ref m1, .ref m2, .int zh, .ref mR, .int zr, .ref x1, .ref x2, .ref x3, .int zc, .ref mH, .int zy, .int za, .int zb, .int zs, .int zq, .int (-1), .int 0, .ref mY, .int zn, .ref mE, .int zm, .int zl, .ref mW, .int zk, .ref mO, .int zd, .ref y1, .ref y2, .ref y3, .ref y4, .ref mZ])), (mY, .inl (cI, 2600, .inl eY)), (mB, .inl (cS, 131072, .inl eB)), (mL, .inl (cI, 512, .inl eL)), (mE, .inl (cI, 2600, .inl eE)), (mS, .inl (cI, 21, .inl eS)), (mX, .inl (cI, 6300, .inl eX))] rfl
    clear hP hD hS hJ hP1 hD1
    have hP := hPn
    have hD := hDn
    have hS := hSn
    clear hPn hDn hSn
    refine lv_if_ne (tgt := 26) hx hb dX12_rough_21 (by decide) (fun c_4 => ?_) (fun c_4 => ?_)
    · have tc_4 : ¬ r_3.toInt = 0 := v_ne c_4
      refine lv_aload_n hx hb dX12_rough_26 rfl (lv_at hl 0 rfl) ?_
      refine lv_iload_n hx hb dX12_rough_27 rfl (lv_at hl 1 rfl) ?_
      refine lv_aload_n hx hb dX12_rough_28 rfl (lv_at hl 0 rfl) ?_
      refine va_get (D := (dC, dI)) (ci := 12) (v := .ref mX) (C := RX12) (T := TX12) (N := 40) hx hb hts in_X12 hown hK hP 0 rfl rfl 3 (by decide) (hts (.fieldLink RX12 16 "TextMenderModel" "texts" "[I") (List.mem_of_getElem? (i := 3) rfl)) (fun _ h9 => h9) rfl dX12_rough_29 ?_
      refine lv_aload_n hx hb dX12_rough_32 rfl (lv_at hl 0 rfl) ?_
      refine va_get (D := (dC, dI)) (ci := 12) (v := .ref mS) (C := RX12) (T := TX12) (N := 40) hx hb hts in_X12 hown hK hP 0 rfl rfl 2 (by decide) (hts (.fieldLink RX12 13 "TextMenderModel" "sizes" "[I") (List.mem_of_getElem? (i := 4) rfl)) (fun _ h9 => h9) rfl dX12_rough_33 ?_
      refine lv_iconst (v := 0) hx hb dX12_rough_36 (by decide) ?_
      refine va_iald hx hb hK hP 5 0 rfl rfl (by unfold vp_in; decide) dX12_rough_37 ?_
      refine lv_topi (fun x_5 ex_5 => ?_)
      have tx_5 : 0 ≤ x_5.toInt ∧ x_5.toInt ≤ 300 := rg_at g_eS ex_5
      refine kV_i (rest := []) (q0 := 0) (ci := 12) hcf (f_X12_write l dC dI cI cS H.size oM mX mT mS mX mL mB mD m1 m2 mR x1 x2 x3 mH mY mE mW mO y1 y2 y3 y4 mZ 6300 zt zp zf zh zr zc zy za zb zs zq (-1) 0 zn zm zl zk zd eY eB eX a x_5 (g_zt) (g_zp) (g_zf) (g_zh) (g_zr) (g_zc) (g_zy) (g_za) (g_zb) (g_zs) (g_zq) (g_zn) (g_zm) (g_zk) (g_eY) (g_eB) (g_eX) (by omega) (v_rr tx_5 (by decide) (by decide)) (by omega) (by omega)) kc_X12_write gX12_rough_X12_write rfl rfl rfl ⟨Nat.le_of_ble_eq_true rfl, Nat.le_of_ble_eq_true rfl⟩ kX_t hK hP hD hS hA [0, 1, 2, 6] [3, 4, 5] rfl (by decide +kernel) rfl rfl rfl hl rfl (Nat.le_of_ble_eq_true rfl) dX12_rough_38 ⟨Nat.le_of_ble_eq_true rfl, Nat.le_of_ble_eq_true rfl⟩ (fun r_6 H locs hB hJ hSn => ?_)
      obtain ⟨zn_6, eY_6, zl_6, ⟨hP1, hD1⟩, hf6_0, hf6_1, hf6_2, hf6_3⟩ := hB
      obtain ⟨hPn, hDn⟩ := hJ _ hP1 hD1 [(mL, .inl (cI, 512, .inl eL)), (mE, .inl (cI, 2600, .inl eE)), (mS, .inl (cI, 21, .inl eS)), (oM, .inr (12, [.ref mT, .int zt, .ref mS, .ref mX, .int zp, .int zf, .ref mL, .ref mB, .ref mD, .ref m1, .ref m2, .int zh, .ref mR, .int zr, .ref x1, .ref x2, .ref x3, .int zc, .ref mH, .int zy, .int za, .int zb, .int zs, .int zq, .int (-1), .int 0, .ref mY, .int zn_6, .ref mE, .int zm, .int zl_6, .ref mW, .int zk, .ref mO, .int zd, .ref y1, .ref y2, .ref y3, .ref y4, .ref mZ])), (mY, .inl (cI, 2600, .inl eY_6)), (mB, .inl (cS, 131072, .inl eB)), (mX, .inl (cI, 6300, .inl eX))] rfl
      clear hP hD hS hJ hP1 hD1
      have hP := hPn
      have hD := hDn
      have hS := hSn
      clear hPn hDn hSn
      refine lv_if_ne (tgt := 54) hx hb dX12_rough_41 (by decide) (fun c_7 => ?_) (fun c_7 => ?_)
      · have tc_7 : ¬ r_6.toInt = 0 := v_ne c_7
        have hwr9 := wr_WR (E := fun j => enc a (eX j) (Br a eB (eX j))) hf6_3 (by omega)
        have hby9 := WR_b (Bf := Br a eB) hwr9 (fun j hj => g_eX j) (okB_r g_eB)
        refine lv_aload_n hx hb dX12_rough_54 rfl (lv_at hl 0 rfl) ?_
        refine va_get (D := (dC, dI)) (ci := 12) (v := .int zn_6) (C := RX12) (T := TX12) (N := 40) hx hb hts in_X12 hown hK hP 3 rfl rfl 27 (by decide) (hts (.fieldLink RX12 91 "TextMenderModel" "byteMany" "I") (List.mem_of_getElem? (i := 6) rfl)) (fun _ h9 => h9) rfl dX12_rough_55 ?_
        refine lv_sipush (v := 900) hx hb dX12_rough_58 (by decide) ?_
        refine lv_icmp_le (tgt := 66) hx hb dX12_rough_61 (by decide) (fun c_8 => ?_) (fun c_8 => ?_)
        · have tc_8 : zn_6.toInt ≤ 900 := v_le c_8
          refine lv_iconst (v := 0) hx hb dX12_rough_66 (by decide) ?_
          refine lv_istore_n (lv' := [(3, .int 0), (0, .ref oM), (1, .int a), (2, .int b)]) hx hb dX12_rough_67 rfl hl (by decide) rfl (fun ls hl => ?_)
          refine lv_iconst (v := 0) hx hb dX12_rough_68 (by decide) ?_
          refine lv_istore (lv' := [(4, .int 0), (3, .int 0), (0, .ref oM), (1, .int a), (2, .int b)]) hx hb dX12_rough_69 hl (by decide) rfl (fun ls hl => ?_)
          refine lv_aload_n hx hb dX12_rough_71 rfl (lv_at hl 2 rfl) ?_
          refine lv_iconst (v := 0) hx hb dX12_rough_72 (by decide) ?_
          refine va_put (D := (dC, dI)) (ci := 12) (v := .int 0) (ty := .int) (C := RX12) (T := TX12) (N := 40) hx hb hts in_X12 tyX12 tyX12_ok nmX12 hown hK hP hD hS 3 rfl rfl 29 (by decide) (hts (.fieldLink RX12 119 "TextMenderModel" "cameMany" "I") (List.mem_of_getElem? (i := 7) rfl)) (fun _ h9 => h9) rfl (by decide +kernel) rfl rfl (Nat.le_of_ble_eq_true rfl) dX12_rough_73 (kW (wn := [(mL, .inl (cI, 512, .inl eL)), (mE, .inl (cI, 2600, .inl eE)), (mS, .inl (cI, 21, .inl eS)), (oM, .inr (12, [.ref mT, .int zt, .ref mS, .ref mX, .int zp, .int zf, .ref mL, .ref mB, .ref mD, .ref m1, .ref m2, .int zh, .ref mR, .int zr, .ref x1, .ref x2, .ref x3, .int zc, .ref mH, .int zy, .int za, .int zb, .int zs, .int zq, .int (-1), .int 0, .ref mY, .int zn_6, .ref mE, .int 0, .int zl_6, .ref mW, .int zk, .ref mO, .int zd, .ref y1, .ref y2, .ref y3, .ref y4, .ref mZ])), (mY, .inl (cI, 2600, .inl eY_6)), (mB, .inl (cS, 131072, .inl eB)), (mX, .inl (cI, 6300, .inl eX))]) rfl (fun H locs hPn hDn hSn => ?_))
          clear hP hD hS
          have hP := hPn
          have hD := hDn
          have hS := hSn
          clear hPn hDn hSn
          have LOOP_76 : ∀ (k_76 : Nat) (mr : Int32) (p_ : Int32) (zma : Int32) (zda : Int32) (eEa : Nat → Int32) (H : Heap) (locs : List Loc) (ls : Array Slot), MSd (900 - p_.toInt : Int) k_76 → (0 ≤ mr.toInt ∧ mr.toInt ≤ 900) → (0 ≤ p_.toInt ∧ p_.toInt ≤ 900) → (0 ≤ zma.toInt ∧ zma.toInt ≤ p_.toInt) → (rg 0 65535 eEa) → (p_.toInt ≤ zn_6.toInt) → (RQ p_ zma mr eEa (dl b (fun k => eL k) (fun k => eL (256 + k)) eY_6 zn_6.toInt) (dx b (fun k => eL k) (fun k => eL (256 + k)) eY_6 zn_6.toInt)) → (0 ≤ mr.toInt ∧ mr.toInt ≤ zma.toInt) → va_P (dC, dI) vwCl [(mL, .inl (cI, 512, .inl eL)), (mE, .inl (cI, 2600, .inl eEa)), (mS, .inl (cI, 21, .inl eS)), (oM, .inr (12, [.ref mT, .int zt, .ref mS, .ref mX, .int zp, .int zf, .ref mL, .ref mB, .ref mD, .ref m1, .ref m2, .int zh, .ref mR, .int zr, .ref x1, .ref x2, .ref x3, .int zc, .ref mH, .int zy, .int za, .int zb, .int zs, .int zq, .int (-1), .int 0, .ref mY, .int zn_6, .ref mE, .int zma, .int zl_6, .ref mW, .int zk, .ref mO, .int zda, .ref y1, .ref y2, .ref y3, .ref y4, .ref mZ])), (mY, .inl (cI, 2600, .inl eY_6)), (mB, .inl (cS, 131072, .inl eB)), (mX, .inl (cI, 6300, .inl eX))] H → va_D A [(mL, .inl (cI, 512, .inl eL)), (mE, .inl (cI, 2600, .inl eEa)), (mS, .inl (cI, 21, .inl eS)), (oM, .inr (12, [.ref mT, .int zt, .ref mS, .ref mX, .int zp, .int zf, .ref mL, .ref mB, .ref mD, .ref m1, .ref m2, .int zh, .ref mR, .int zr, .ref x1, .ref x2, .ref x3, .int zc, .ref mH, .int zy, .int za, .int zb, .int zs, .int zq, .int (-1), .int 0, .ref mY, .int zn_6, .ref mE, .int zma, .int zl_6, .ref mW, .int zk, .ref mO, .int zda, .ref y1, .ref y2, .ref y3, .ref y4, .ref mZ])), (mY, .inl (cI, 2600, .inl eY_6)), (mB, .inl (cS, 131072, .inl eB)), (mX, .inl (cI, 6300, .inl eX))] → va_S A s.heap H locs → lv_has ls 6 [(4, .int p_), (3, .int mr), (0, .ref oM), (1, .int a), (2, .int b)] → W p l e (headSpec wsX12_rough ({ frames := 3, cells := 0, slots := 0, locals := 68 } : Room)).room s m ([.ref oM, .int a, .int b] : List Value).toArray below meth c H locs 0 0 (MQ below QQ ([.ref oM, .int a, .int b] : List Value).toArray s 0 0 A) (F0 m 76 ls []) := by
            clear hP hD hS hl
            intro k_76
            induction k_76 with
            | zero =>
              intro mr p_ zma zda eEa H locs ls hm_76 g_mr g_p_ g_zma g_eEa hpl hrq hmk hP hD hS hl
              exact ms_0 hm_76
            | succ k_76 ih_76 =>
              intro mr p_ zma zda eEa H locs ls hm_76 g_mr g_p_ g_zma g_eEa hpl hrq hmk hP hD hS hl
              refine lv_iload hx hb dX12_rough_76 (lv_at hl 0 rfl) ?_
              refine lv_aload_n hx hb dX12_rough_78 rfl (lv_at hl 2 rfl) ?_
              refine va_get (D := (dC, dI)) (ci := 12) (v := .int zn_6) (C := RX12) (T := TX12) (N := 40) hx hb hts in_X12 hown hK hP 3 rfl rfl 27 (by decide) (hts (.fieldLink RX12 91 "TextMenderModel" "byteMany" "I") (List.mem_of_getElem? (i := 6) rfl)) (fun _ h9 => h9) rfl dX12_rough_79 ?_
              refine lv_icmp_ge (tgt := 159) hx hb dX12_rough_82 (by decide) (fun c_9 => ?_) (fun c_9 => ?_)
              · have tc_9 : zn_6.toInt ≤ p_.toInt := v_le c_9
                refine lv_aload_n hx hb dX12_rough_159 rfl (lv_at hl 2 rfl) ?_
                refine va_get (D := (dC, dI)) (ci := 12) (v := .int zma) (C := RX12) (T := TX12) (N := 40) hx hb hts in_X12 hown hK hP 3 rfl rfl 29 (by decide) (hts (.fieldLink RX12 119 "TextMenderModel" "cameMany" "I") (List.mem_of_getElem? (i := 7) rfl)) (fun _ h9 => h9) rfl dX12_rough_160 ?_
                refine lv_sipush (v := 300) hx hb dX12_rough_163 (by decide) ?_
                refine lv_icmp_le (tgt := 171) hx hb dX12_rough_166 (by decide) (fun c_10 => ?_) (fun c_10 => ?_)
                · have tc_10 : zma.toInt ≤ 300 := v_le c_10
                  refine lv_aload_n hx hb dX12_rough_171 rfl (lv_at hl 2 rfl) ?_
                  refine lv_aload_n hx hb dX12_rough_172 rfl (lv_at hl 2 rfl) ?_
                  refine va_get (D := (dC, dI)) (ci := 12) (v := .ref mE) (C := RX12) (T := TX12) (N := 40) hx hb hts in_X12 hown hK hP 3 rfl rfl 28 (by decide) (hts (.fieldLink RX12 61 "TextMenderModel" "came" "[I") (List.mem_of_getElem? (i := 8) rfl)) (fun _ h9 => h9) rfl dX12_rough_173 ?_
                  refine lv_aload_n hx hb dX12_rough_176 rfl (lv_at hl 2 rfl) ?_
                  refine va_get (D := (dC, dI)) (ci := 12) (v := .int zma) (C := RX12) (T := TX12) (N := 40) hx hb hts in_X12 hown hK hP 3 rfl rfl 29 (by decide) (hts (.fieldLink RX12 119 "TextMenderModel" "cameMany" "I") (List.mem_of_getElem? (i := 7) rfl)) (fun _ h9 => h9) rfl dX12_rough_177 ?_
                  refine kV_v (rest := []) (q0 := 0) (ci := 12) hcf (f_X12_bec l dC dI cI cS H.size oM mE mT mS mX mL mB mD m1 m2 mR x1 x2 x3 mH mY mE mW mO y1 y2 y3 y4 mZ 2600 zt zp zf zh zr zc zy za zb zs zq (-1) 0 zn_6 zma zl_6 zk zda eS eX eEa zma (g_zt) (g_zp) (g_zf) (g_zh) (g_zr) (g_zc) (g_zy) (g_za) (g_zb) (g_zs) (g_zq) (hf6_0) (by omega) (g_zk) (g_eS) (g_eX) (by omega) (by omega) (by omega) (prg_of g_eEa) (by omega)) kc_X12_become gX12_rough_X12_become rfl rfl rfl ⟨Nat.le_of_ble_eq_true rfl, Nat.le_of_ble_eq_true rfl⟩ kX_t hK hP hD hS hA [3, 2, 6, 1] [0, 4, 5] rfl (by decide +kernel) rfl rfl rfl hl rfl (Nat.le_of_ble_eq_true rfl) dX12_rough_180 ⟨Nat.le_of_ble_eq_true rfl, Nat.le_of_ble_eq_true rfl⟩ (fun H locs hB hJ hSn => ?_)
                  obtain ⟨zp_11, zf_11, zs_11, eS_11, eX_11, ⟨hP1, hD1⟩, hf11_0, hf11_1, hf11_2, hf11_3, hf11_4, hf11_5, hf11_6⟩ := hB
                  obtain ⟨hPn, hDn⟩ := hJ _ hP1 hD1 [(mL, .inl (cI, 512, .inl eL)), (mY, .inl (cI, 2600, .inl eY_6)), (mB, .inl (cS, 131072, .inl eB)), (oM, .inr (12, [.ref mT, .int zt, .ref mS, .ref mX, .int zp_11, .int zf_11, .ref mL, .ref mB, .ref mD, .ref m1, .ref m2, .int zh, .ref mR, .int zr, .ref x1, .ref x2, .ref x3, .int zc, .ref mH, .int zy, .int za, .int zb, .int zs_11, .int zq, .int (-1), .int 0, .ref mY, .int zn_6, .ref mE, .int zma, .int zl_6, .ref mW, .int zk, .ref mO, .int zda, .ref y1, .ref y2, .ref y3, .ref y4, .ref mZ])), (mS, .inl (cI, 21, .inl eS_11)), (mX, .inl (cI, 6300, .inl eX_11)), (mE, .inl (cI, 2600, .inl eEa))] rfl
                  clear hP hD hS hJ hP1 hD1
                  have hP := hPn
                  have hD := hDn
                  have hS := hSn
                  clear hPn hDn hSn
                  refine lv_iload_n hx hb dX12_rough_183 rfl (lv_at hl 1 rfl) ?_
                  exact kl_i (v := mr) hQQ hx hb hr hlocks hS dX12_rough_184 ⟨0, (-1), zn_6, eY_6, zda, zma, zl_6, eEa, zp_11, zf_11, zs_11, eS_11, eX_11, kPD_sub hP hD [3, 1, 2, 0, 6, 4, 5] (by decide +kernel) rfl, hf6_0, hf6_1, by omega, g_eEa, hf11_0, hf11_1, hf11_2, hf11_3, hf11_4, by show zs_11.toInt ≤ zs.toInt + 1 ∧ zs.toInt ≤ zs_11.toInt; omega, by first | exact Or.inl (by omega) | exact Or.inr ⟨rfl, rfl, rfl⟩, OR_y (rg_y2 (rg_yes (Bf := Br a eB) hwr9 (by omega) hrq (by omega) (by omega)) (by unfold okd; omega) (by unfold okd; omega) (by rw [ex_5]; rfl)) hf11_6 (by omega)⟩
                · have tc_10 : 300 < zma.toInt := v_nle c_10
                  refine lv_iconst (v := (-1)) hx hb dX12_rough_169 (by decide) ?_
                  exact kl_i (v := (-1)) hQQ hx hb hr hlocks hS dX12_rough_170 ⟨0, (-1), zn_6, eY_6, zda, zma, zl_6, eEa, zp, zf, zs, eS, eX, kPD_sub hP hD [3, 4, 5, 0, 1, 2, 6] (by decide +kernel) rfl, hf6_0, hf6_1, by omega, g_eEa, g_zp, g_zf, g_zs, g_eS, g_eX, by show zs.toInt ≤ zs.toInt + 1 ∧ zs.toInt ≤ zs.toInt; omega, by first | exact Or.inl (by omega) | exact Or.inr ⟨rfl, rfl, rfl⟩, OR_n rfl (fun c fm v h => (rg_x (rg_no (Bf := Br a eB) hwr9 hby9 (fun _ => RQ_end hrq (by omega) (by omega))) (by rw [ex_5]; rfl)) c fm v h.2.2)⟩
              · have tc_9 : p_.toInt < zn_6.toInt := v_nle c_9
                refine lv_aload_n hx hb dX12_rough_85 rfl (lv_at hl 2 rfl) ?_
                refine lv_iload_n hx hb dX12_rough_86 rfl (lv_at hl 4 rfl) ?_
                refine lv_iload hx hb dX12_rough_87 (lv_at hl 0 rfl) ?_
                refine kV_i (rest := []) (q0 := 0) (ci := 12) hcf (f_X12_readAt l dC dI cI cS H.size oM mT mS mX mL mB mD m1 m2 mR x1 x2 x3 mH mY mE mW mO y1 y2 y3 y4 mZ zt zp zf zh zr zc zy za zb zs zq (-1) 0 zn_6 zma zl_6 zk zda eY_6 eL b p_ (g_zt) (g_zp) (g_zf) (g_zh) (g_zr) (g_zc) (g_zy) (g_za) (g_zb) (g_zs) (g_zq) (hf6_0) (by omega) (g_zk) (hf6_1) (g_eL) (by omega) (v_rr g_p_ (by decide) (by decide)) (by omega)) kc_X12_readAt gX12_rough_X12_readAt rfl rfl rfl ⟨Nat.le_of_ble_eq_true rfl, Nat.le_of_ble_eq_true rfl⟩ kX_t hK hP hD hS hA [3, 4, 0] [1, 2, 5, 6] rfl (by decide +kernel) rfl rfl rfl hl rfl (Nat.le_of_ble_eq_true rfl) dX12_rough_89 ⟨Nat.le_of_ble_eq_true rfl, Nat.le_of_ble_eq_true rfl⟩ (fun r_12 H locs hB hJ hSn => ?_)
                obtain ⟨zd_12, ⟨hP1, hD1⟩, hf12_0, hf12_1, hf12_2⟩ := hB
                obtain ⟨hPn, hDn⟩ := hJ _ hP1 hD1 [(mE, .inl (cI, 2600, .inl eEa)), (mS, .inl (cI, 21, .inl eS)), (mB, .inl (cS, 131072, .inl eB)), (mX, .inl (cI, 6300, .inl eX)), (oM, .inr (12, [.ref mT, .int zt, .ref mS, .ref mX, .int zp, .int zf, .ref mL, .ref mB, .ref mD, .ref m1, .ref m2, .int zh, .ref mR, .int zr, .ref x1, .ref x2, .ref x3, .int zc, .ref mH, .int zy, .int za, .int zb, .int zs, .int zq, .int (-1), .int 0, .ref mY, .int zn_6, .ref mE, .int zma, .int zl_6, .ref mW, .int zk, .ref mO, .int zd_12, .ref y1, .ref y2, .ref y3, .ref y4, .ref mZ])), (mY, .inl (cI, 2600, .inl eY_6)), (mL, .inl (cI, 512, .inl eL))] rfl
                clear hP hD hS hJ hP1 hD1
                have hP := hPn
                have hD := hDn
                have hS := hSn
                clear hPn hDn hSn
                refine lv_istore (lv' := [(5, .int r_12), (4, .int p_), (3, .int mr), (0, .ref oM), (1, .int a), (2, .int b)]) hx hb dX12_rough_92 hl (by decide) rfl (fun ls hl => ?_)
                have cp9 := v_clamp (x := p_) (by omega)
                have hu9 : ¬ r_12.toInt = 0 → (p_.toNatClampNeg : Int) + r_12.toInt ≤ _ := fun z => (F_ra_1 hf12_2 z).2.2.2
                refine lv_aload_n hx hb dX12_rough_94 rfl (lv_at hl 3 rfl) ?_
                refine va_get (D := (dC, dI)) (ci := 12) (v := .ref mE) (C := RX12) (T := TX12) (N := 40) hx hb hts in_X12 hown hK hP 4 rfl rfl 28 (by decide) (hts (.fieldLink RX12 61 "TextMenderModel" "came" "[I") (List.mem_of_getElem? (i := 8) rfl)) (fun _ h9 => h9) rfl dX12_rough_95 ?_
                refine lv_aload_n hx hb dX12_rough_98 rfl (lv_at hl 3 rfl) ?_
                refine va_get (D := (dC, dI)) (ci := 12) (v := .int zma) (C := RX12) (T := TX12) (N := 40) hx hb hts in_X12 hown hK hP 4 rfl rfl 29 (by decide) (hts (.fieldLink RX12 119 "TextMenderModel" "cameMany" "I") (List.mem_of_getElem? (i := 7) rfl)) (fun _ h9 => h9) rfl dX12_rough_99 ?_
                refine lv_iload hx hb dX12_rough_102 (lv_at hl 0 rfl) ?_
                refine lv_if_ne (tgt := 112) hx hb dX12_rough_104 (by decide) (fun c_13 => ?_) (fun c_13 => ?_)
                · have tc_13 : ¬ r_12.toInt = 0 := v_ne c_13
                  refine lv_aload_n hx hb dX12_rough_112 rfl (lv_at hl 3 rfl) ?_
                  refine va_get (D := (dC, dI)) (ci := 12) (v := .int zd_12) (C := RX12) (T := TX12) (N := 40) hx hb hts in_X12 hown hK hP 4 rfl rfl 34 (by decide) (hts (.fieldLink RX12 105 "TextMenderModel" "readLetter" "I") (List.mem_of_getElem? (i := 10) rfl)) (fun _ h9 => h9) rfl dX12_rough_113 ?_
                  obtain ⟨f_14, ef_14⟩ : ∃ g : Nat → Int32, g = upd eEa (zma : Int32).toNatClampNeg zd_12 := ⟨_, rfl⟩
                  refine va_iast hx hb hK hP hD hS 0 0 rfl rfl (v_in (by omega)) dX12_rough_116 (kWf (g := f_14) (F := fun f_14 => [(mE, .inl (cI, 2600, .inl f_14)), (mS, .inl (cI, 21, .inl eS)), (mB, .inl (cS, 131072, .inl eB)), (mX, .inl (cI, 6300, .inl eX)), (oM, .inr (12, [.ref mT, .int zt, .ref mS, .ref mX, .int zp, .int zf, .ref mL, .ref mB, .ref mD, .ref m1, .ref m2, .int zh, .ref mR, .int zr, .ref x1, .ref x2, .ref x3, .int zc, .ref mH, .int zy, .int za, .int zb, .int zs, .int zq, .int (-1), .int 0, .ref mY, .int zn_6, .ref mE, .int zma, .int zl_6, .ref mW, .int zk, .ref mO, .int zd_12, .ref y1, .ref y2, .ref y3, .ref y4, .ref mZ])), (mY, .inl (cI, 2600, .inl eY_6)), (mL, .inl (cI, 512, .inl eL))]) ef_14 rfl (fun H locs hPn hDn hSn => ?_))
                  clear hP hD hS
                  have hP := hPn
                  have hD := hDn
                  have hS := hSn
                  clear hPn hDn hSn
                  have g_f14 : rg 0 65535 f_14 := rg_upd ef_14 g_eEa (by omega)
                  refine lv_aload_n hx hb dX12_rough_117 rfl (lv_at hl 3 rfl) ?_
                  refine lv_dup hx hb dX12_rough_118 rfl ?_
                  refine va_get (D := (dC, dI)) (ci := 12) (v := .int zma) (C := RX12) (T := TX12) (N := 40) hx hb hts in_X12 hown hK hP 4 rfl rfl 29 (by decide) (hts (.fieldLink RX12 119 "TextMenderModel" "cameMany" "I") (List.mem_of_getElem? (i := 7) rfl)) (fun _ h9 => h9) rfl dX12_rough_119 ?_
                  refine lv_iconst (v := 1) hx hb dX12_rough_122 (by decide) ?_
                  refine lv_iadd hx hb dX12_rough_123 ?_
                  refine lv_topi (fun x_15 ex_15 => ?_)
                  have tx_15 : x_15.toInt = zma.toInt + 1 := v_add ex_15 (by show -2147483648 ≤ zma.toInt + 1; omega) (by show zma.toInt + 1 < 2147483648; omega)
                  refine va_put (D := (dC, dI)) (ci := 12) (v := .int x_15) (ty := .int) (C := RX12) (T := TX12) (N := 40) hx hb hts in_X12 tyX12 tyX12_ok nmX12 hown hK hP hD hS 4 rfl rfl 29 (by decide) (hts (.fieldLink RX12 119 "TextMenderModel" "cameMany" "I") (List.mem_of_getElem? (i := 7) rfl)) (fun _ h9 => h9) rfl (by decide +kernel) rfl rfl (Nat.le_of_ble_eq_true rfl) dX12_rough_124 (kW (wn := [(mE, .inl (cI, 2600, .inl f_14)), (mS, .inl (cI, 21, .inl eS)), (mB, .inl (cS, 131072, .inl eB)), (mX, .inl (cI, 6300, .inl eX)), (oM, .inr (12, [.ref mT, .int zt, .ref mS, .ref mX, .int zp, .int zf, .ref mL, .ref mB, .ref mD, .ref m1, .ref m2, .int zh, .ref mR, .int zr, .ref x1, .ref x2, .ref x3, .int zc, .ref mH, .int zy, .int za, .int zb, .int zs, .int zq, .int (-1), .int 0, .ref mY, .int zn_6, .ref mE, .int x_15, .int zl_6, .ref mW, .int zk, .ref mO, .int zd_12, .ref y1, .ref y2, .ref y3, .ref y4, .ref mZ])), (mY, .inl (cI, 2600, .inl eY_6)), (mL, .inl (cI, 512, .inl eL))]) rfl (fun H locs hPn hDn hSn => ?_))
                  clear hP hD hS
                  have hP := hPn
                  have hD := hDn
                  have hS := hSn
                  clear hPn hDn hSn
                  refine lv_iload_n hx hb dX12_rough_127 rfl (lv_at hl 2 rfl) ?_
                  refine lv_iload hx hb dX12_rough_128 (lv_at hl 0 rfl) ?_
                  refine lv_if_ne (tgt := 137) hx hb dX12_rough_130 (by decide) (fun c_16 => ?_) (fun c_16 => by exfalso; have tc_16 : r_12.toInt = 0 := v_eq c_16; omega)
                  have tc_16 : ¬ r_12.toInt = 0 := v_ne c_16
                  refine lv_iconst (v := 0) hx hb dX12_rough_137 (by decide) ?_
                  refine lv_iadd hx hb dX12_rough_138 ?_
                  refine lv_topi (fun x_17 ex_17 => ?_)
                  have tx_17 : x_17.toInt = mr.toInt + 0 := v_addR (l2 := 0) (h2 := 0) ex_17 g_mr (by decide) (by decide) (by decide)
                  refine lv_istore_n (lv' := [(3, .int x_17), (5, .int r_12), (4, .int p_), (0, .ref oM), (1, .int a), (2, .int b)]) hx hb dX12_rough_139 rfl hl (by decide) rfl (fun ls hl => ?_)
                  refine lv_iload hx hb dX12_rough_140 (lv_at hl 2 rfl) ?_
                  refine lv_iload hx hb dX12_rough_142 (lv_at hl 1 rfl) ?_
                  refine lv_if_ne (tgt := 151) hx hb dX12_rough_144 (by decide) (fun c_18 => ?_) (fun c_18 => by exfalso; have tc_18 : r_12.toInt = 0 := v_eq c_18; omega)
                  have tc_18 : ¬ r_12.toInt = 0 := v_ne c_18
                  refine lv_iload hx hb dX12_rough_151 (lv_at hl 1 rfl) ?_
                  refine lv_iadd hx hb dX12_rough_153 ?_
                  refine lv_topi (fun x_19 ex_19 => ?_)
                  have tx_19 : x_19.toInt = p_.toInt + r_12.toInt := v_addR ex_19 g_p_ hf12_0 (by decide) (by decide)
                  refine lv_istore (lv' := [(4, .int x_19), (3, .int x_17), (5, .int r_12), (0, .ref oM), (1, .int a), (2, .int b)]) hx hb dX12_rough_154 hl (by decide) rfl (fun ls hl => ?_)
                  refine lv_goto (tgt := 76) hx hb dX12_rough_156 (by decide) ?_
                  exact ih_76 x_17 x_19 x_15 zd_12 f_14 _ _ _ (ms_lt hm_76 (by show ((900 - x_19.toInt : Int)) < 900 - p_.toInt; omega) (by show (0 : Int) < 900 - p_.toInt; omega)) (v_rr (v_sumR (l := 0) (h := 900) (l2 := 0) (h2 := 0) tx_17 g_mr (by decide) (by decide) (by decide)) (by decide) (by decide)) (by show 0 ≤ x_19.toInt ∧ x_19.toInt ≤ 900; omega) (by show 0 ≤ x_15.toInt ∧ x_15.toInt ≤ x_19.toInt; omega) (g_f14) (by show x_19.toInt ≤ zn_6.toInt; omega) (RQ_s hrq (by omega) ef_14 (Or.inr ⟨fun e9 => by have u9 := (F_ra_1 hf12_2 (by omega)).2.2.1; omega, (F_ra_1 hf12_2 (by omega)).2.1.symm, by omega, by have u9 := (F_ra_1 hf12_2 (by omega)).1; omega⟩)) (by show 0 ≤ x_17.toInt ∧ x_17.toInt ≤ x_15.toInt; omega) (hP.sub [6, 0, 1, 4, 5, 2, 3] rfl) (hD.sub [6, 0, 1, 4, 5, 2, 3] (by decide +kernel) rfl) hS (lv_sub hl [0, 1, 3, 4, 5] rfl)
                · have tc_13 : r_12.toInt = 0 := v_eq c_13
                  refine lv_ldc hx hb hown (hts (.constant RX12 126 (65533)) (List.mem_of_getElem? (i := 9) rfl)) dX12_rough_107 ?_
                  refine lv_goto (tgt := 116) hx hb dX12_rough_109 (by decide) ?_
                  obtain ⟨f_20, ef_20⟩ : ∃ g : Nat → Int32, g = upd eEa (zma : Int32).toNatClampNeg 65533 := ⟨_, rfl⟩
                  refine va_iast hx hb hK hP hD hS 0 0 rfl rfl (v_in (by omega)) dX12_rough_116 (kWf (g := f_20) (F := fun f_20 => [(mE, .inl (cI, 2600, .inl f_20)), (mS, .inl (cI, 21, .inl eS)), (mB, .inl (cS, 131072, .inl eB)), (mX, .inl (cI, 6300, .inl eX)), (oM, .inr (12, [.ref mT, .int zt, .ref mS, .ref mX, .int zp, .int zf, .ref mL, .ref mB, .ref mD, .ref m1, .ref m2, .int zh, .ref mR, .int zr, .ref x1, .ref x2, .ref x3, .int zc, .ref mH, .int zy, .int za, .int zb, .int zs, .int zq, .int (-1), .int 0, .ref mY, .int zn_6, .ref mE, .int zma, .int zl_6, .ref mW, .int zk, .ref mO, .int zd_12, .ref y1, .ref y2, .ref y3, .ref y4, .ref mZ])), (mY, .inl (cI, 2600, .inl eY_6)), (mL, .inl (cI, 512, .inl eL))]) ef_20 rfl (fun H locs hPn hDn hSn => ?_))
                  clear hP hD hS
                  have hP := hPn
                  have hD := hDn
                  have hS := hSn
                  clear hPn hDn hSn
                  have g_f20 : rg 0 65535 f_20 := rg_upd ef_20 g_eEa (by decide)
                  refine lv_aload_n hx hb dX12_rough_117 rfl (lv_at hl 3 rfl) ?_
                  refine lv_dup hx hb dX12_rough_118 rfl ?_
                  refine va_get (D := (dC, dI)) (ci := 12) (v := .int zma) (C := RX12) (T := TX12) (N := 40) hx hb hts in_X12 hown hK hP 4 rfl rfl 29 (by decide) (hts (.fieldLink RX12 119 "TextMenderModel" "cameMany" "I") (List.mem_of_getElem? (i := 7) rfl)) (fun _ h9 => h9) rfl dX12_rough_119 ?_
                  refine lv_iconst (v := 1) hx hb dX12_rough_122 (by decide) ?_
                  refine lv_iadd hx hb dX12_rough_123 ?_
                  refine lv_topi (fun x_21 ex_21 => ?_)
                  have tx_21 : x_21.toInt = zma.toInt + 1 := v_add ex_21 (by show -2147483648 ≤ zma.toInt + 1; omega) (by show zma.toInt + 1 < 2147483648; omega)
                  refine va_put (D := (dC, dI)) (ci := 12) (v := .int x_21) (ty := .int) (C := RX12) (T := TX12) (N := 40) hx hb hts in_X12 tyX12 tyX12_ok nmX12 hown hK hP hD hS 4 rfl rfl 29 (by decide) (hts (.fieldLink RX12 119 "TextMenderModel" "cameMany" "I") (List.mem_of_getElem? (i := 7) rfl)) (fun _ h9 => h9) rfl (by decide +kernel) rfl rfl (Nat.le_of_ble_eq_true rfl) dX12_rough_124 (kW (wn := [(mE, .inl (cI, 2600, .inl f_20)), (mS, .inl (cI, 21, .inl eS)), (mB, .inl (cS, 131072, .inl eB)), (mX, .inl (cI, 6300, .inl eX)), (oM, .inr (12, [.ref mT, .int zt, .ref mS, .ref mX, .int zp, .int zf, .ref mL, .ref mB, .ref mD, .ref m1, .ref m2, .int zh, .ref mR, .int zr, .ref x1, .ref x2, .ref x3, .int zc, .ref mH, .int zy, .int za, .int zb, .int zs, .int zq, .int (-1), .int 0, .ref mY, .int zn_6, .ref mE, .int x_21, .int zl_6, .ref mW, .int zk, .ref mO, .int zd_12, .ref y1, .ref y2, .ref y3, .ref y4, .ref mZ])), (mY, .inl (cI, 2600, .inl eY_6)), (mL, .inl (cI, 512, .inl eL))]) rfl (fun H locs hPn hDn hSn => ?_))
                  clear hP hD hS
                  have hP := hPn
                  have hD := hDn
                  have hS := hSn
                  clear hPn hDn hSn
                  refine lv_iload_n hx hb dX12_rough_127 rfl (lv_at hl 2 rfl) ?_
                  refine lv_iload hx hb dX12_rough_128 (lv_at hl 0 rfl) ?_
                  refine lv_if_ne (tgt := 137) hx hb dX12_rough_130 (by decide) (fun c_22 => by exfalso; have tc_22 : ¬ r_12.toInt = 0 := v_ne c_22; omega) (fun c_22 => ?_)
                  have tc_22 : r_12.toInt = 0 := v_eq c_22
                  refine lv_iconst (v := 1) hx hb dX12_rough_133 (by decide) ?_
                  refine lv_goto (tgt := 138) hx hb dX12_rough_134 (by decide) ?_
                  refine lv_iadd hx hb dX12_rough_138 ?_
                  refine lv_topi (fun x_23 ex_23 => ?_)
                  have tx_23 : x_23.toInt = mr.toInt + 1 := v_addR (l2 := 1) (h2 := 1) ex_23 g_mr (by decide) (by decide) (by decide)
                  refine lv_istore_n (lv' := [(3, .int x_23), (5, .int r_12), (4, .int p_), (0, .ref oM), (1, .int a), (2, .int b)]) hx hb dX12_rough_139 rfl hl (by decide) rfl (fun ls hl => ?_)
                  refine lv_iload hx hb dX12_rough_140 (lv_at hl 2 rfl) ?_
                  refine lv_iload hx hb dX12_rough_142 (lv_at hl 1 rfl) ?_
                  refine lv_if_ne (tgt := 151) hx hb dX12_rough_144 (by decide) (fun c_24 => by exfalso; have tc_24 : ¬ r_12.toInt = 0 := v_ne c_24; omega) (fun c_24 => ?_)
                  have tc_24 : r_12.toInt = 0 := v_eq c_24
                  refine lv_iconst (v := 1) hx hb dX12_rough_147 (by decide) ?_
                  refine lv_goto (tgt := 153) hx hb dX12_rough_148 (by decide) ?_
                  refine lv_iadd hx hb dX12_rough_153 ?_
                  refine lv_topi (fun x_25 ex_25 => ?_)
                  have tx_25 : x_25.toInt = p_.toInt + 1 := v_addR (l2 := 1) (h2 := 1) ex_25 g_p_ (by decide) (by decide) (by decide)
                  refine lv_istore (lv' := [(4, .int x_25), (3, .int x_23), (5, .int r_12), (0, .ref oM), (1, .int a), (2, .int b)]) hx hb dX12_rough_154 hl (by decide) rfl (fun ls hl => ?_)
                  refine lv_goto (tgt := 76) hx hb dX12_rough_156 (by decide) ?_
                  exact ih_76 x_23 x_25 x_21 zd_12 f_20 _ _ _ (ms_lt hm_76 (by show ((900 - x_25.toInt : Int)) < 900 - p_.toInt; omega) (by show (0 : Int) < 900 - p_.toInt; omega)) (by show 0 ≤ x_23.toInt ∧ x_23.toInt ≤ 900; omega) (by show 0 ≤ x_25.toInt ∧ x_25.toInt ≤ 900; omega) (by show 0 ≤ x_21.toInt ∧ x_21.toInt ≤ x_25.toInt; omega) (g_f20) (by show x_25.toInt ≤ zn_6.toInt; omega) (RQ_s hrq (by omega) ef_20 (Or.inl ⟨F_ra_0 hf12_2 (by omega), rfl, by omega, by omega⟩)) (by show 0 ≤ x_23.toInt ∧ x_23.toInt ≤ x_21.toInt; omega) (hP.sub [6, 0, 1, 4, 5, 2, 3] rfl) (hD.sub [6, 0, 1, 4, 5, 2, 3] (by decide +kernel) rfl) hS (lv_sub hl [0, 1, 3, 4, 5] rfl)
          exact LOOP_76 _ 0 0 0 zd eE _ _ _ (ms_s _) (by decide) (by decide) (by show 0 ≤ (0 : Int) ∧ (0 : Int) ≤ 0; omega) (g_eE) (by show 0 ≤ zn_6.toInt; omega) (RQ_0 rfl rfl rfl) (by show 0 ≤ 0 ∧ 0 ≤ 0; omega) hP hD hS (lv_sub hl [0, 1, 2, 3, 4] rfl)
        · have tc_8 : 900 < zn_6.toInt := v_nle c_8
          refine lv_iconst (v := (-1)) hx hb dX12_rough_64 (by decide) ?_
          exact kl_i (v := (-1)) hQQ hx hb hr hlocks hS dX12_rough_65 ⟨0, (-1), zn_6, eY_6, zd, zm, zl_6, eE, zp, zf, zs, eS, eX, kPD_sub hP hD [3, 4, 5, 0, 1, 2, 6] (by decide +kernel) rfl, hf6_0, hf6_1, g_zm, g_eE, g_zp, g_zf, g_zs, g_eS, g_eX, by show zs.toInt ≤ zs.toInt + 1 ∧ zs.toInt ≤ zs.toInt; omega, by first | exact Or.inl (by omega) | exact Or.inr ⟨rfl, rfl, rfl⟩, by first | exact OR_n rfl (fun c fm v h => (rg_x (rg_w0 (Bf := Br a eB) hf6_3 (by omega)) (by rw [ex_5]; rfl)) c fm v h.2.2) | exact OR_n rfl (fun c fm v h => (rg_x (rg_no (Bf := Br a eB) hwr9 hby9 (fun z => by omega)) (by rw [ex_5]; rfl)) c fm v h.2.2)⟩
      · have tc_7 : r_6.toInt = 0 := v_eq c_7
        refine lv_aload_n hx hb dX12_rough_44 rfl (lv_at hl 0 rfl) ?_
        refine lv_aload_n hx hb dX12_rough_45 rfl (lv_at hl 0 rfl) ?_
        refine va_get (D := (dC, dI)) (ci := 12) (v := .int zl_6) (C := RX12) (T := TX12) (N := 40) hx hb hts in_X12 hown hK hP 3 rfl rfl 30 (by decide) (hts (.fieldLink RX12 102 "TextMenderModel" "faultAt" "I") (List.mem_of_getElem? (i := 5) rfl)) (fun _ h9 => h9) rfl dX12_rough_46 ?_
        refine va_put (D := (dC, dI)) (ci := 12) (v := .int zl_6) (ty := .int) (C := RX12) (T := TX12) (N := 40) hx hb hts in_X12 tyX12 tyX12_ok nmX12 hown hK hP hD hS 3 rfl rfl 24 (by decide) (hts (.fieldLink RX12 55 "TextMenderModel" "where" "I") (List.mem_of_getElem? (i := 2) rfl)) (fun _ h9 => h9) rfl (by decide +kernel) rfl rfl (Nat.le_of_ble_eq_true rfl) dX12_rough_49 (kW (wn := [(mL, .inl (cI, 512, .inl eL)), (mE, .inl (cI, 2600, .inl eE)), (mS, .inl (cI, 21, .inl eS)), (oM, .inr (12, [.ref mT, .int zt, .ref mS, .ref mX, .int zp, .int zf, .ref mL, .ref mB, .ref mD, .ref m1, .ref m2, .int zh, .ref mR, .int zr, .ref x1, .ref x2, .ref x3, .int zc, .ref mH, .int zy, .int za, .int zb, .int zs, .int zq, .int zl_6, .int 0, .ref mY, .int zn_6, .ref mE, .int zm, .int zl_6, .ref mW, .int zk, .ref mO, .int zd, .ref y1, .ref y2, .ref y3, .ref y4, .ref mZ])), (mY, .inl (cI, 2600, .inl eY_6)), (mB, .inl (cS, 131072, .inl eB)), (mX, .inl (cI, 6300, .inl eX))]) rfl (fun H locs hPn hDn hSn => ?_))
        clear hP hD hS
        have hP := hPn
        have hD := hDn
        have hS := hSn
        clear hPn hDn hSn
        refine lv_iconst (v := (-1)) hx hb dX12_rough_52 (by decide) ?_
        exact kl_i (v := (-1)) hQQ hx hb hr hlocks hS dX12_rough_53 ⟨0, zl_6, zn_6, eY_6, zd, zm, zl_6, eE, zp, zf, zs, eS, eX, kPD_sub hP hD [3, 4, 5, 0, 1, 2, 6] (by decide +kernel) rfl, hf6_0, hf6_1, g_zm, g_eE, g_zp, g_zf, g_zs, g_eS, g_eX, by show zs.toInt ≤ zs.toInt + 1 ∧ zs.toInt ≤ zs.toInt; omega, by first | exact Or.inl (by omega) | exact Or.inr ⟨rfl, rfl, rfl⟩, by first | exact OR_n rfl (fun c fm v h => (rg_x (rg_w0 (Bf := Br a eB) hf6_3 (by omega)) (by rw [ex_5]; rfl)) c fm v h.2.2) | exact OR_n rfl (fun c fm v h => (rg_x (rg_no (Bf := Br a eB) hwr9 hby9 (fun z => by omega)) (by rw [ex_5]; rfl)) c fm v h.2.2)⟩
    · have tc_4 : r_3.toInt = 0 := v_eq c_4
      refine lv_iconst (v := (-1)) hx hb dX12_rough_24 (by decide) ?_
      exact kl_i (v := (-1)) hQQ hx hb hr hlocks hS dX12_rough_25 ⟨0, (-1), zn, eY, zd, zm, zl, eE, zp, zf, zs, eS, eX, ⟨hP, hD⟩, g_zn, g_eY, g_zm, g_eE, g_zp, g_zf, g_zs, g_eS, g_eX, by show zs.toInt ≤ zs.toInt + 1 ∧ zs.toInt ≤ zs.toInt; omega, by first | exact Or.inl (by omega) | exact Or.inr ⟨rfl, rfl, rfl⟩, OR_n rfl (fun c fm v h => by have h1 := h.1; have h2 := h.2.1; unfold okd at h1 h2; omega)⟩

end

/-! 59p.rows -/
section
/-! rows of harms: harm h undone (UC: the class's, UR: the reference's), one behind another (UNL), and the book of all rows (rGE) -/
def UC (H1 H2 f41 f42 f43 f51 f52 f53 : Nat → Int32) (h n : Nat) (f : Nat → Int32) (c : Nat) (f' : Nat → Int32) : Prop := HM (H2 h) (H1 h) f41 f51 (Bc (H2 h) f42 f43 f52 f53) n f c f'
def UR (e1 e2 eL eB : Nat → Int32) (h n : Nat) (f : Nat → Int32) (c : Nat) (f' : Nat → Int32) : Prop := HM (e2 h) (e1 h) (fun k => eL k) (fun k => eL (256 + k)) (Br (e2 h) eB) n f c f'
def okU (U : Nat → Nat → (Nat → Int32) → Nat → (Nat → Int32) → Prop) : Prop :=
  (∀ (h n c c' : Nat) (f f1 f2 : Nat → Int32), prg n 0 65535 f → U h n f c f1 → U h n f c' f2 → c = c' ∧ ∀ i, i < c → f1 i = f2 i) ∧
  (∀ (h n c : Nat) (f g f' : Nat → Int32), (∀ i, i < n → f i = g i) → U h n f c f' → U h n g c f') ∧
  (∀ (h n c : Nat) (f f' : Nat → Int32), prg n 0 65535 f → U h n f c f' → c ≤ 300 ∧ prg c 0 65535 f') ∧
  ∀ (h n c : Nat) (f f1 f2 : Nat → Int32), (∀ i, i < c → f2 i = f1 i) → U h n f c f1 → U h n f c f2
theorem HM_c {a b : Int32} {L4 L5 : Nat → Int32} {Bf : Int32 → Int32} {n c : Nat} {f f' : Nat → Int32} (h : HM a b L4 L5 Bf n f c f') : c ≤ 300 := by
  obtain ⟨m, g, a1, a2, a3, a4, a5⟩ := h
  exact a4
theorem okU_C {H1 H2 f41 f42 f43 f51 f52 f53 : Nat → Int32} (hB : ∀ cd : Int32, okB (Bc cd f42 f43 f52 f53)) (h4 : prg 256 (-1) 65535 f41) (h5 : prg 256 (-1) 65535 f51) : okU (UC H1 H2 f41 f42 f43 f51 f52 f53) :=
  ⟨fun _ _ _ _ _ _ _ hf a b => HM_u hf (hB _) a b, fun _ _ _ _ _ _ e a => HM_g a e, fun _ _ _ _ _ hf a => ⟨HM_c a, HM_r hf (hB _) h4 h5 a⟩, fun _ _ _ _ _ _ e a => HM_f a e⟩
theorem okU_R {e1 e2 eL eB : Nat → Int32} (gB : rg (-1) 255 eB) (gL : rg (-1) 65535 eL) : okU (UR e1 e2 eL eB) :=
  ⟨fun _ _ _ _ _ _ _ hf a b => HM_u hf (okB_r gB) a b, fun _ _ _ _ _ _ e a => HM_g a e, fun _ _ _ _ _ hf a => ⟨HM_c a, HM_r hf (okB_r gB) (rg_prg gL) (rg_L5 gL) a⟩, fun _ _ _ _ _ _ e a => HM_f a e⟩
theorem okB_C {l4 l5 a : Int32} {f41 f42 f43 f51 f52 f53 eL eB eD : Nat → Int32} (R4 : TR 0 l4 f41 f42 f43 eL eB eD) (R5 : TR 1 l5 f51 f52 f53 eL eB eD) (gB : rg (-1) 255 eB) : okB (Bc a f42 f43 f52 f53) := by
  intro x h1 h2
  unfold Bc
  split
  · rw [TR_bf R4 h1 h2]; exact gB _
  · rw [TR_bf R5 h1 h2]; exact gB _
theorem UCR {l4 l5 : Int32} {H1 H2 e1 e2 f41 f42 f43 f51 f52 f53 eL eB eD f f' : Nat → Int32} {h n c : Nat} (R4 : TR 0 l4 f41 f42 f43 eL eB eD) (R5 : TR 1 l5 f51 f52 f53 eL eB eD) (gB : rg (-1) 255 eB) (q1 : H1 h = e1 h) (q2 : H2 h = e2 h) (hf : prg n 0 65535 f) : UC H1 H2 f41 f42 f43 f51 f52 f53 h n f c f' ↔ UR e1 e2 eL eB h n f c f' := by
  unfold UC UR
  rw [q1, q2]
  constructor
  · intro a
    exact HM_t hf (okB_C R4 R5 gB) (fun j hj => rfl) (TR_L4 R4) (TR_L5 R5) (fun x h1 h2 => enc_eq R4 R5 h1 h2) a
  · intro a
    exact HM_t hf (okB_r gB) (fun j hj => rfl) (fun k hk => (TR_L4 R4 k hk).symm) (fun k hk => (TR_L5 R5 k hk).symm) (fun x h1 h2 => (enc_eq R4 R5 h1 h2).symm) a
/-- what takeOff and undoes answer -/
def F_to (U : Nat → Nat → (Nat → Int32) → Nat → (Nat → Int32) → Prop) (r l : Int32) (f' : Nat → Int32) (h : Nat) (n : Int) (f : Nat → Int32) : Prop := (r = 1 ∧ ∃ c : Nat, l.toInt = c ∧ U h n.toNat f c f') ∨ (r = 0 ∧ ∀ (c : Nat) (f2 : Nat → Int32), ¬ U h n.toNat f c f2)
theorem to_1 {U : Nat → Nat → (Nat → Int32) → Nat → (Nat → Int32) → Prop} {r l : Int32} {f f' : Nat → Int32} {h : Nat} {n : Int} (a : F_to U r l f' h n f) (e : ¬ r.toInt = 0) : ∃ c : Nat, l.toInt = c ∧ U h n.toNat f c f' := a.elim (fun z => z.2) (fun z => absurd (by rw [z.1]; rfl) e)
theorem to_0 {U : Nat → Nat → (Nat → Int32) → Nat → (Nat → Int32) → Prop} {r l : Int32} {f f' : Nat → Int32} {h : Nat} {n : Int} (a : F_to U r l f' h n f) (e : r.toInt = 0) : ∀ (c : Nat) (f2 : Nat → Int32), ¬ U h n.toNat f c f2 := by
  rcases a with a | a
  · rw [a.1] at e; exact absurd e (by decide)
  · exact a.2
theorem to_1n {U : Nat → Nat → (Nat → Int32) → Nat → (Nat → Int32) → Prop} {r l : Int32} {f f' : Nat → Int32} {h : Nat} {n : Int} (a : F_to U r l f' h n f) (e : ¬ r.toInt = 0) : U h n.toNat f l.toInt.toNat f' := by
  obtain ⟨c, c1, c2⟩ := to_1 a e
  have : l.toInt.toNat = c := by omega
  rw [this]; exact c2
/-- harms undone one behind another -/
def UNL (U : Nat → Nat → (Nat → Int32) → Nat → (Nat → Int32) → Prop) : List Nat → Nat → (Nat → Int32) → Nat → (Nat → Int32) → Prop
  | [], n, f, c, f' => c = n ∧ ∀ i, i < c → f' i = f i
  | h :: t, n, f, c, f' => ∃ (m : Nat) (g : Nat → Int32), U h n f m g ∧ UNL U t m g c f'
section RWS
variable {U V : Nat → Nat → (Nat → Int32) → Nat → (Nat → Int32) → Prop}
theorem UNL_g (hU : okU U) : ∀ (l : List Nat) (n c : Nat) (f g f' : Nat → Int32), (∀ i, i < n → f i = g i) → UNL U l n f c f' → UNL U l n g c f'
  | [], n, c, f, g, f', e, h => ⟨h.1, fun i hi => (h.2 i hi).trans (e i (by have := h.1; omega))⟩
  | _ :: _, n, c, f, g, f', e, ⟨m, g1, a1, a2⟩ => ⟨m, g1, hU.2.1 _ _ _ _ _ _ e a1, a2⟩
theorem UNL_f (hU : okU U) : ∀ (l : List Nat) (n c : Nat) (f f1 f2 : Nat → Int32), (∀ i, i < c → f2 i = f1 i) → UNL U l n f c f1 → UNL U l n f c f2
  | [], n, c, f, f1, f2, e, h => ⟨h.1, fun i hi => (e i hi).trans (h.2 i hi)⟩
  | _ :: t, n, c, f, f1, f2, e, ⟨m, g1, a1, a2⟩ => ⟨m, g1, a1, UNL_f hU t _ _ _ _ _ e a2⟩
theorem UNL_cons (hU : okU U) {h n m c : Nat} {t : List Nat} {f g f' : Nat → Int32} (hf : prg n 0 65535 f) (h1 : U h n f m g) : UNL U (h :: t) n f c f' ↔ UNL U t m g c f' := by
  constructor
  · rintro ⟨m', g', a, b⟩
    obtain ⟨q1, q2⟩ := hU.1 _ _ _ _ _ _ _ hf a h1
    subst q1
    exact UNL_g hU _ _ _ _ _ _ q2 b
  · exact fun b => ⟨m, g, h1, b⟩
theorem UNL_no {h n : Nat} {t : List Nat} {f : Nat → Int32} (h1 : ∀ (m : Nat) (g : Nat → Int32), ¬ U h n f m g) : ∀ c f', ¬ UNL U (h :: t) n f c f' := fun _ _ ⟨m, g, a, _⟩ => h1 m g a
theorem UNL_r (hU : okU U) : ∀ (l : List Nat) (n c : Nat) (f f' : Nat → Int32), n ≤ 300 → prg n 0 65535 f → UNL U l n f c f' → c ≤ 300 ∧ prg c 0 65535 f'
  | [], n, c, f, f', hn, hf, h => ⟨by have := h.1; omega, fun j hj => by rw [h.2 j (by omega)]; exact hf j (by have := h.1; omega)⟩
  | _ :: t, n, c, f, f', hn, hf, ⟨m, g1, a1, a2⟩ => by
    obtain ⟨q1, q2⟩ := hU.2.2.1 _ _ _ _ _ hf a1
    exact UNL_r hU t _ _ _ _ q1 q2 a2
theorem UNL_u (hU : okU U) : ∀ (l : List Nat) (n c c' : Nat) (f f1 f2 : Nat → Int32), prg n 0 65535 f → UNL U l n f c f1 → UNL U l n f c' f2 → c = c' ∧ ∀ i, i < c → f1 i = f2 i
  | [], n, c, c', f, f1, f2, _, h, h' => ⟨by rw [h.1, h'.1], fun i hi => (h.2 i hi).trans (h'.2 i (by have := h.1; have := h'.1; omega)).symm⟩
  | _ :: t, n, c, c', f, f1, f2, hf, ⟨m, g1, a1, a2⟩, h' => by
    have q := (hU.2.2.1 _ _ _ _ _ hf a1).2
    exact UNL_u hU t _ _ _ _ _ _ q a2 ((UNL_cons hU hf a1).mp h')
theorem UNL_iff (hU : okU U) : ∀ (l : List Nat) (n c : Nat) (f f' : Nat → Int32), (∀ h, h ∈ l → ∀ (n c : Nat) (f f' : Nat → Int32), prg n 0 65535 f → (U h n f c f' ↔ V h n f c f')) → prg n 0 65535 f → (UNL U l n f c f' ↔ UNL V l n f c f')
  | [], _, _, _, _, _, _ => Iff.rfl
  | h :: t, n, c, f, f', e, hf => by
    constructor
    · rintro ⟨m, g, a, b⟩
      have q := (hU.2.2.1 _ _ _ _ _ hf a).2
      exact ⟨m, g, (e h List.mem_cons_self _ _ _ _ hf).mp a, (UNL_iff hU t _ _ _ _ (fun h' hh => e h' (List.mem_cons_of_mem _ hh)) q).mp b⟩
    · rintro ⟨m, g, a, b⟩
      have a' := (e h List.mem_cons_self _ _ _ _ hf).mpr a
      have q := (hU.2.2.1 _ _ _ _ _ hf a').2
      exact ⟨m, g, a', (UNL_iff hU t _ _ _ _ (fun h' hh => e h' (List.mem_cons_of_mem _ hh)) q).mpr b⟩
/-- the harms of a row told by its number: the last one first -/
def digs (z : Nat) : Nat → Nat → List Nat
  | 0, _ => []
  | k + 1, c => (c % z) :: digs z k (c / z)
theorem digs_lt {z : Nat} (hz : 1 ≤ z) : ∀ (k c h : Nat), h ∈ digs z k c → h < z
  | 0, _, _, hh => by cases hh
  | k + 1, c, h, hh => by
    rcases List.mem_cons.mp hh with e | e
    · rw [e]; exact Nat.mod_lt _ (by omega)
    · exact digs_lt hz k _ h e
def roff (z : Nat) : Nat → Nat
  | 0 => 0
  | 1 => 0
  | 2 => z
  | 3 => z + z * z
  | _ => z + z * z + z * z * z
def rpz (z : Nat) : Nat → Nat
  | 0 => 1
  | 1 => z
  | 2 => z * z
  | _ => z * z * z
theorem rz7 {z : Nat} (h : z ≤ 6) : z = 0 ∨ z = 1 ∨ z = 2 ∨ z = 3 ∨ z = 4 ∨ z = 5 ∨ z = 6 := by omega
theorem rk3 {k : Nat} (h1 : 1 ≤ k) (h : k ≤ 3) : k = 1 ∨ k = 2 ∨ k = 3 := by omega
theorem roff_s {z k : Nat} (h1 : 1 ≤ k) (h : k ≤ 3) : roff z (k + 1) = roff z k + rpz z k := by
  rcases rk3 h1 h with e | e | e <;> subst e
  · show z = 0 + z; omega
  · rfl
  · rfl
theorem roff_4 {z : Nat} (hz : z ≤ 6) : roff z 4 ≤ 258 := by
  rcases rz7 hz with e | e | e | e | e | e | e <;> subst e <;> decide
theorem roff_m {z k k' : Nat} (h1 : 1 ≤ k) (h : k ≤ k') (h' : k' ≤ 4) : roff z k ≤ roff z k' := by
  have a : roff z 1 ≤ roff z 2 := by show 0 ≤ _; omega
  have b : roff z 2 ≤ roff z 3 := Nat.le_add_right _ _
  have c : roff z 3 ≤ roff z 4 := Nat.le_add_right _ _
  have k4 : k = 1 ∨ k = 2 ∨ k = 3 ∨ k = 4 := by omega
  have k4' : k' = 1 ∨ k' = 2 ∨ k' = 3 ∨ k' = 4 := by omega
  rcases k4 with e | e | e | e <;> rcases k4' with e' | e' | e' | e' <;> subst e <;> subst e' <;> omega
/-- what stands at a place of the book -/
def rEN (T : Int32 → Int32 → Int32) (p : Nat) (M : Nat → (Nat → Int32) → Prop) (h1 h2 h3 : Int) (R1 R2 R3 : Nat → Int32) : Prop := (∃ (c : Nat) (f' : Nat → Int32), M c f' ∧ (R1 p).toInt = cT T c f' ∧ (R2 p).toInt = c ∧ (R3 (3 * p)).toInt = h1 ∧ (R3 (3 * p + 1)).toInt = h2 ∧ (R3 (3 * p + 2)).toInt = h3 ∧ 0 ≤ (R1 p).toInt) ∨ ((∀ c f', ¬ M c f') ∧ R1 p = -1)
/-- the book with some rows done: S1, S2, S3 say which -/
def rF1 (U : Nat → Nat → (Nat → Int32) → Nat → (Nat → Int32) → Prop) (T : Int32 → Int32 → Int32) (z n : Nat) (f : Nat → Int32) (S1 : Nat → Prop) (S2 : Nat → Nat → Prop) (S3 : Nat → Nat → Nat → Prop) (R1 R2 R3 : Nat → Int32) : Prop :=
  (∀ a : Nat, a < z → (S1 a → rEN T a (UNL U [a] n f) a (-1) (-1) R1 R2 R3) ∧ (¬ S1 a → R1 a = -1)) ∧
  (∀ a b : Nat, a < z → b < z → (S2 a b → rEN T (z + b * z + a) (UNL U [a, b] n f) b a (-1) R1 R2 R3) ∧ (¬ S2 a b → R1 (z + b * z + a) = -1)) ∧
  (∀ a b c : Nat, a < z → b < z → c < z → (S3 a b c → rEN T (z + z * z + (c * z + b) * z + a) (UNL U [a, b, c] n f) c b a R1 R2 R3) ∧ (¬ S3 a b c → R1 (z + z * z + (c * z + b) * z + a) = -1)) ∧
  ∀ p : Nat, z + z * z + z * z * z ≤ p → p < 258 → R1 p = -1
theorem rF1_ch {T : Int32 → Int32 → Int32} {z n : Nat} {f : Nat → Int32} {S1 S1' : Nat → Prop} {S2 S2' : Nat → Nat → Prop} {S3 S3' : Nat → Nat → Nat → Prop} {R1 R2 R3 : Nat → Int32} (h : rF1 U T z n f S1 S2 S3 R1 R2 R3)
    (c1 : ∀ a, a < z → (S1 a → S1' a) ∧ (S1' a → S1 a ∨ ∀ c f', ¬ UNL U [a] n f c f'))
    (c2 : ∀ a b, a < z → b < z → (S2 a b → S2' a b) ∧ (S2' a b → S2 a b ∨ ∀ c f', ¬ UNL U [a, b] n f c f'))
    (c3 : ∀ a b c, a < z → b < z → c < z → (S3 a b c → S3' a b c) ∧ (S3' a b c → S3 a b c ∨ ∀ c2 f', ¬ UNL U [a, b, c] n f c2 f')) : rF1 U T z n f S1' S2' S3' R1 R2 R3 := by
  refine ⟨fun a ha => ⟨fun s => ?_, fun s => (h.1 a ha).2 (fun w => s ((c1 a ha).1 w))⟩, fun a b ha hb => ⟨fun s => ?_, fun s => (h.2.1 a b ha hb).2 (fun w => s ((c2 a b ha hb).1 w))⟩, fun a b c ha hb hc => ⟨fun s => ?_, fun s => (h.2.2.1 a b c ha hb hc).2 (fun w => s ((c3 a b c ha hb hc).1 w))⟩, h.2.2.2⟩
  · by_cases w : S1 a
    · exact (h.1 a ha).1 w
    · exact Or.inr ⟨((c1 a ha).2 s).resolve_left w, (h.1 a ha).2 w⟩
  · by_cases w : S2 a b
    · exact (h.2.1 a b ha hb).1 w
    · exact Or.inr ⟨((c2 a b ha hb).2 s).resolve_left w, (h.2.1 a b ha hb).2 w⟩
  · by_cases w : S3 a b c
    · exact (h.2.2.1 a b c ha hb hc).1 w
    · exact Or.inr ⟨((c3 a b c ha hb hc).2 s).resolve_left w, (h.2.2.1 a b c ha hb hc).2 w⟩
/-- a row is written at the place p -/
def rWP (p : Nat) (x y u v w : Int32) (R1 R1' R2 R2' R3 R3' : Nat → Int32) : Prop := R1' = upd R1 p x ∧ R2' = upd R2 p y ∧ R3' = upd (upd (upd R3 (3 * p) u) (3 * p + 1) v) (3 * p + 2) w
theorem rWP_o {p q : Nat} {x y u v w : Int32} {R1 R1' R2 R2' R3 R3' : Nat → Int32} (h : rWP p x y u v w R1 R1' R2 R2' R3 R3') (hq : q ≠ p) : R1' q = R1 q ∧ R2' q = R2 q ∧ R3' (3 * q) = R3 (3 * q) ∧ R3' (3 * q + 1) = R3 (3 * q + 1) ∧ R3' (3 * q + 2) = R3 (3 * q + 2) := by
  obtain ⟨h1, h2, h3⟩ := h
  refine ⟨by rw [h1, pk_un hq], by rw [h2, pk_un hq], ?_, ?_, ?_⟩
  · rw [h3, pk_un (by omega), pk_un (by omega), pk_un (by omega)]
  · rw [h3, pk_un (by omega), pk_un (by omega), pk_un (by omega)]
  · rw [h3, pk_un (by omega), pk_un (by omega), pk_un (by omega)]
theorem rWP_s {p : Nat} {x y u v w : Int32} {R1 R1' R2 R2' R3 R3' : Nat → Int32} (h : rWP p x y u v w R1 R1' R2 R2' R3 R3') : R1' p = x ∧ R2' p = y ∧ R3' (3 * p) = u ∧ R3' (3 * p + 1) = v ∧ R3' (3 * p + 2) = w := by
  obtain ⟨h1, h2, h3⟩ := h
  refine ⟨by rw [h1, pk_us], by rw [h2, pk_us], ?_, ?_, ?_⟩
  · rw [h3, pk_un (by omega), pk_un (by omega), pk_us]
  · rw [h3, pk_un (by omega), pk_us]
  · rw [h3, pk_us]
theorem rEN_o {T : Int32 → Int32 → Int32} {p q : Nat} {x y u v w : Int32} {R1 R1' R2 R2' R3 R3' : Nat → Int32} {M : Nat → (Nat → Int32) → Prop} {h1 h2 h3 : Int} (h : rWP p x y u v w R1 R1' R2 R2' R3 R3') (hq : q ≠ p) (a : rEN T q M h1 h2 h3 R1 R2 R3) : rEN T q M h1 h2 h3 R1' R2' R3' := by
  obtain ⟨o1, o2, o3, o4, o5⟩ := rWP_o h hq
  unfold rEN
  rw [o1, o2, o3, o4, o5]
  exact a
theorem rEN_s {T : Int32 → Int32 → Int32} {p c : Nat} {x y u v w : Int32} {f' R1 R1' R2 R2' R3 R3' : Nat → Int32} {M : Nat → (Nat → Int32) → Prop} {h1 h2 h3 : Int} (h : rWP p x y u v w R1 R1' R2 R2' R3 R3') (hM : M c f') (hx : x.toInt = cT T c f') (hx0 : 0 ≤ x.toInt) (hy : y.toInt = c) (hu : u.toInt = h1) (hv : v.toInt = h2) (hw : w.toInt = h3) : rEN T p M h1 h2 h3 R1' R2' R3' := by
  obtain ⟨o1, o2, o3, o4, o5⟩ := rWP_s h
  exact Or.inl ⟨c, f', hM, by rw [o1]; exact hx, by rw [o2]; exact hy, by rw [o3]; exact hu, by rw [o4]; exact hv, by rw [o5]; exact hw, by rw [o1]; exact hx0⟩
theorem rp_12 {z a a' b' : Nat} (ha : a < z) : a ≠ z + b' * z + a' := by omega
theorem rp_23 {z a b a' b' c' : Nat} (hz : z ≤ 6) (ha : a < z) (hb : b < z) : z + b * z + a ≠ z + z * z + (c' * z + b') * z + a' := by
  rcases rz7 hz with e | e | e | e | e | e | e <;> subst e <;> omega
theorem rp_13 {z a a' b' c' : Nat} (ha : a < z) : a ≠ z + z * z + (c' * z + b') * z + a' := by omega
theorem rp_22 {z a b a' b' : Nat} (hz : z ≤ 6) (ha : a < z) (hb : b < z) (ha' : a' < z) (hb' : b' < z) (h : z + b * z + a = z + b' * z + a') : a = a' ∧ b = b' := by
  rcases rz7 hz with e | e | e | e | e | e | e <;> subst e <;> omega
theorem rp_33 {z a b c a' b' c' : Nat} (hz : z ≤ 6) (ha : a < z) (hb : b < z) (hc : c < z) (ha' : a' < z) (hb' : b' < z) (hc' : c' < z) (h : z + z * z + (c * z + b) * z + a = z + z * z + (c' * z + b') * z + a') : a = a' ∧ b = b' ∧ c = c' := by
  rcases rz7 hz with e | e | e | e | e | e | e <;> subst e <;> omega
theorem rp_1e {z a p : Nat} (ha : a < z) (hp : z + z * z + z * z * z ≤ p) : p ≠ a := by omega
theorem rp_2e {z a b p : Nat} (hz : z ≤ 6) (ha : a < z) (hb : b < z) (hp : z + z * z + z * z * z ≤ p) : p ≠ z + b * z + a := by
  rcases rz7 hz with e | e | e | e | e | e | e <;> subst e <;> omega
theorem rp_3e {z a b c p : Nat} (hz : z ≤ 6) (ha : a < z) (hb : b < z) (hc : c < z) (hp : z + z * z + z * z * z ≤ p) : p ≠ z + z * z + (c * z + b) * z + a := by
  rcases rz7 hz with e | e | e | e | e | e | e <;> subst e <;> omega
/-- the book while it is made: by the numbers of its loops -/
def rG1 (U : Nat → Nat → (Nat → Int32) → Nat → (Nat → Int32) → Prop) (T : Int32 → Int32 → Int32) (z n : Nat) (f : Nat → Int32) (nn l1 la mi mj fi : Int) (R1 R2 R3 : Nat → Int32) : Prop :=
  rF1 U T z n f (fun a => (a : Int) < l1) (fun a b => 1 < nn ∧ ((a : Int) < la ∨ ((a : Int) = la ∧ (b : Int) < mi))) (fun a b c => 2 < nn ∧ ((a : Int) < la ∨ ((a : Int) = la ∧ ((b : Int) < mj ∨ ((b : Int) = mj ∧ (c : Int) < fi))))) R1 R2 R3
theorem rG1_0 {T : Int32 → Int32 → Int32} {z n : Nat} {f : Nat → Int32} {nn l0 : Int} {R1 R2 R3 : Nat → Int32} (hz : z ≤ 6) (h0 : l0 = 0) (h : ∀ j : Nat, (j : Int) < 258 → R1 j = -1) : rG1 U T z n f nn l0 l0 0 0 0 R1 R2 R3 := by
  subst h0
  refine ⟨fun a ha => ⟨fun s => ?_, fun _ => h a (by omega)⟩, fun a b ha hb => ⟨fun s => ?_, fun _ => h _ ?_⟩, fun a b c ha hb hc => ⟨fun s => ?_, fun _ => h _ ?_⟩, fun p _ hp => h p (by omega)⟩
  · exact absurd s (by show ¬ (a : Int) < 0; omega)
  · exact absurd s (by show ¬ (1 < nn ∧ ((a : Int) < 0 ∨ ((a : Int) = 0 ∧ (b : Int) < 0))); omega)
  · rcases rz7 hz with e | e | e | e | e | e | e <;> subst e <;> omega
  · exact absurd s (by show ¬ (2 < nn ∧ ((a : Int) < 0 ∨ ((a : Int) = 0 ∧ ((b : Int) < 0 ∨ ((b : Int) = 0 ∧ (c : Int) < 0))))); omega)
  · rcases rz7 hz with e | e | e | e | e | e | e <;> subst e <;> omega
theorem rG1_f1 {T : Int32 → Int32 → Int32} {z n a0 : Nat} {f : Nat → Int32} {nn la la' : Int} {R1 R2 R3 : Nat → Int32} (h : rG1 U T z n f nn la la 0 0 0 R1 R2 R3) (ea : (a0 : Int) = la) (e' : la' = la + 1) (hno : ∀ (c : Nat) (f2 : Nat → Int32), ¬ U a0 n f c f2) : rG1 U T z n f nn la' la' 0 0 0 R1 R2 R3 := by
  have k : ∀ (t : List Nat) (a : Nat), (a : Int) = la → ∀ c f', ¬ UNL U (a :: t) n f c f' := fun t a e => by
    have e2 : a = a0 := by omega
    rw [e2]; exact UNL_no hno
  refine rF1_ch h (fun a ha => ⟨fun s => ?_, fun s => ?_⟩) (fun a b ha hb => ⟨fun s => ?_, fun s => ?_⟩) (fun a b c ha hb hc => ⟨fun s => ?_, fun s => ?_⟩)
  · show (a : Int) < la'; have s : (a : Int) < la := s; omega
  · have s : (a : Int) < la' := s
    by_cases w : (a : Int) = la
    · exact Or.inr (k _ a w)
    · exact Or.inl (by show (a : Int) < la; omega)
  · have s : 1 < nn ∧ ((a : Int) < la ∨ ((a : Int) = la ∧ (b : Int) < 0)) := s
    show 1 < nn ∧ ((a : Int) < la' ∨ ((a : Int) = la' ∧ (b : Int) < 0)); omega
  · have s : 1 < nn ∧ ((a : Int) < la' ∨ ((a : Int) = la' ∧ (b : Int) < 0)) := s
    by_cases w : (a : Int) = la
    · exact Or.inr (k _ a w)
    · exact Or.inl (by show 1 < nn ∧ ((a : Int) < la ∨ ((a : Int) = la ∧ (b : Int) < 0)); omega)
  · have s : 2 < nn ∧ ((a : Int) < la ∨ ((a : Int) = la ∧ ((b : Int) < 0 ∨ ((b : Int) = 0 ∧ (c : Int) < 0)))) := s
    show 2 < nn ∧ ((a : Int) < la' ∨ ((a : Int) = la' ∧ ((b : Int) < 0 ∨ ((b : Int) = 0 ∧ (c : Int) < 0)))); omega
  · have s : 2 < nn ∧ ((a : Int) < la' ∨ ((a : Int) = la' ∧ ((b : Int) < 0 ∨ ((b : Int) = 0 ∧ (c : Int) < 0)))) := s
    by_cases w : (a : Int) = la
    · exact Or.inr (k _ a w)
    · exact Or.inl (by show 2 < nn ∧ ((a : Int) < la ∨ ((a : Int) = la ∧ ((b : Int) < 0 ∨ ((b : Int) = 0 ∧ (c : Int) < 0)))); omega)
theorem rF1_w {T : Int32 → Int32 → Int32} {z n p : Nat} {f : Nat → Int32} {S1 S1' : Nat → Prop} {S2 S2' : Nat → Nat → Prop} {S3 S3' : Nat → Nat → Nat → Prop} {x y u v w : Int32} {R1 R1' R2 R2' R3 R3' : Nat → Int32} (h : rF1 U T z n f S1 S2 S3 R1 R2 R3) (hw : rWP p x y u v w R1 R1' R2 R2' R3 R3')
    (c1 : ∀ a, a < z → (a ≠ p ∧ (S1' a ↔ S1 a)) ∨ (a = p ∧ S1' a ∧ rEN T a (UNL U [a] n f) a (-1) (-1) R1' R2' R3'))
    (c2 : ∀ a b, a < z → b < z → (z + b * z + a ≠ p ∧ (S2' a b ↔ S2 a b)) ∨ (z + b * z + a = p ∧ S2' a b ∧ rEN T (z + b * z + a) (UNL U [a, b] n f) b a (-1) R1' R2' R3'))
    (c3 : ∀ a b c, a < z → b < z → c < z → (z + z * z + (c * z + b) * z + a ≠ p ∧ (S3' a b c ↔ S3 a b c)) ∨ (z + z * z + (c * z + b) * z + a = p ∧ S3' a b c ∧ rEN T (z + z * z + (c * z + b) * z + a) (UNL U [a, b, c] n f) c b a R1' R2' R3'))
    (c4 : ∀ q, z + z * z + z * z * z ≤ q → q ≠ p) : rF1 U T z n f S1' S2' S3' R1' R2' R3' := by
  refine ⟨fun a ha => ?_, fun a b ha hb => ?_, fun a b c ha hb hc => ?_, fun q h1 h2 => by rw [(rWP_o hw (c4 q h1)).1]; exact h.2.2.2 q h1 h2⟩
  · rcases c1 a ha with ⟨q1, q2⟩ | ⟨q1, q2, q3⟩
    · exact ⟨fun s => rEN_o hw q1 ((h.1 a ha).1 (q2.mp s)), fun s => by rw [(rWP_o hw q1).1]; exact (h.1 a ha).2 (fun w => s (q2.mpr w))⟩
    · exact ⟨fun _ => q3, fun s => absurd q2 s⟩
  · rcases c2 a b ha hb with ⟨q1, q2⟩ | ⟨q1, q2, q3⟩
    · exact ⟨fun s => rEN_o hw q1 ((h.2.1 a b ha hb).1 (q2.mp s)), fun s => by rw [(rWP_o hw q1).1]; exact (h.2.1 a b ha hb).2 (fun w => s (q2.mpr w))⟩
    · exact ⟨fun _ => q3, fun s => absurd q2 s⟩
  · rcases c3 a b c ha hb hc with ⟨q1, q2⟩ | ⟨q1, q2, q3⟩
    · exact ⟨fun s => rEN_o hw q1 ((h.2.2.1 a b c ha hb hc).1 (q2.mp s)), fun s => by rw [(rWP_o hw q1).1]; exact (h.2.2.1 a b c ha hb hc).2 (fun w => s (q2.mpr w))⟩
    · exact ⟨fun _ => q3, fun s => absurd q2 s⟩
theorem rG1_w1 {T : Int32 → Int32 → Int32} {z n c a0 p : Nat} {f f' : Nat → Int32} {nn la la' : Int} {x y u v w : Int32} {R1 R1' R2 R2' R3 R3' : Nat → Int32} (h : rG1 U T z n f nn la la 0 0 0 R1 R2 R3) (hz : z ≤ 6) (ha0 : a0 < z) (ea : (a0 : Int) = la) (e' : la' = la + 1) (ep : p = a0) (hw : rWP p x y u v w R1 R1' R2 R2' R3 R3') (hM : U a0 n f c f') (hx : x.toInt = cT T c f') (hx0 : 0 ≤ x.toInt) (hy : y.toInt = c) (hu : u.toInt = a0) (hv : v.toInt = -1) (hw3 : w.toInt = -1) : rG1 U T z n f nn la' la 0 0 0 R1' R2' R3' := by
  subst ep
  refine rF1_w h hw (fun a ha => ?_) (fun a b ha hb => Or.inl ⟨fun e => rp_12 ha0 e.symm, Iff.rfl⟩) (fun a b c ha hb hc => Or.inl ⟨fun e => rp_13 ha0 e.symm, Iff.rfl⟩) (fun q hq => rp_1e ha0 hq)
  by_cases e : a = p
  · refine Or.inr ⟨e, ?_, ?_⟩
    · show (a : Int) < la'; omega
    · subst e
      exact rEN_s hw ⟨c, f', hM, rfl, fun _ _ => rfl⟩ hx hx0 hy hu hv hw3
  · refine Or.inl ⟨e, ?_⟩
    show (a : Int) < la' ↔ (a : Int) < la
    omega
theorem rG1_f2 {T : Int32 → Int32 → Int32} (hU : okU U) {z n m a0 b0 : Nat} {f g : Nat → Int32} {nn l1 la mi mi' : Int} {R1 R2 R3 : Nat → Int32} (h : rG1 U T z n f nn l1 la mi mi 0 R1 R2 R3) (hf : prg n 0 65535 f) (ea : (a0 : Int) = la) (eb : (b0 : Int) = mi) (e' : mi' = mi + 1) (h1 : U a0 n f m g) (hno : ∀ (c : Nat) (f2 : Nat → Int32), ¬ U b0 m g c f2) : rG1 U T z n f nn l1 la mi' mi' 0 R1 R2 R3 := by
  have k : ∀ (t : List Nat) (a b : Nat), (a : Int) = la → (b : Int) = mi → ∀ c f', ¬ UNL U (a :: b :: t) n f c f' := fun t a b e e2 c f' hh => by
    have q1 : a = a0 := by omega
    have q2 : b = b0 := by omega
    subst q1
    subst q2
    exact UNL_no hno _ _ ((UNL_cons hU hf h1).mp hh)
  refine rF1_ch h (fun a ha => ⟨fun s => s, fun s => Or.inl s⟩) (fun a b ha hb => ⟨fun s => ?_, fun s => ?_⟩) (fun a b c ha hb hc => ⟨fun s => ?_, fun s => ?_⟩)
  · have s : 1 < nn ∧ ((a : Int) < la ∨ ((a : Int) = la ∧ (b : Int) < mi)) := s
    show 1 < nn ∧ ((a : Int) < la ∨ ((a : Int) = la ∧ (b : Int) < mi')); omega
  · have s : 1 < nn ∧ ((a : Int) < la ∨ ((a : Int) = la ∧ (b : Int) < mi')) := s
    by_cases w : (a : Int) = la ∧ (b : Int) = mi
    · exact Or.inr (k _ a b w.1 w.2)
    · exact Or.inl (by show 1 < nn ∧ ((a : Int) < la ∨ ((a : Int) = la ∧ (b : Int) < mi)); omega)
  · have s : 2 < nn ∧ ((a : Int) < la ∨ ((a : Int) = la ∧ ((b : Int) < mi ∨ ((b : Int) = mi ∧ (c : Int) < 0)))) := s
    show 2 < nn ∧ ((a : Int) < la ∨ ((a : Int) = la ∧ ((b : Int) < mi' ∨ ((b : Int) = mi' ∧ (c : Int) < 0)))); omega
  · have s : 2 < nn ∧ ((a : Int) < la ∨ ((a : Int) = la ∧ ((b : Int) < mi' ∨ ((b : Int) = mi' ∧ (c : Int) < 0)))) := s
    by_cases w : (a : Int) = la ∧ (b : Int) = mi
    · exact Or.inr (k _ a b w.1 w.2)
    · exact Or.inl (by show 2 < nn ∧ ((a : Int) < la ∨ ((a : Int) = la ∧ ((b : Int) < mi ∨ ((b : Int) = mi ∧ (c : Int) < 0)))); omega)
theorem rG1_w2 {T : Int32 → Int32 → Int32} {z n m c a0 b0 p : Nat} {f g f' : Nat → Int32} {nn l1 la mi mi' : Int} {x y u v w : Int32} {R1 R1' R2 R2' R3 R3' : Nat → Int32} (h : rG1 U T z n f nn l1 la mi mi 0 R1 R2 R3) (hz : z ≤ 6) (hn : 1 < nn) (ha0 : a0 < z) (hb0 : b0 < z) (ea : (a0 : Int) = la) (eb : (b0 : Int) = mi) (e' : mi' = mi + 1) (ep : p = z + b0 * z + a0) (hw : rWP p x y u v w R1 R1' R2 R2' R3 R3') (h1 : U a0 n f m g) (hM : U b0 m g c f') (hx : x.toInt = cT T c f') (hx0 : 0 ≤ x.toInt) (hy : y.toInt = c) (hu : u.toInt = b0) (hv : v.toInt = a0) (hw3 : w.toInt = -1) : rG1 U T z n f nn l1 la mi' mi 0 R1' R2' R3' := by
  subst ep
  refine rF1_w h hw (fun a ha => Or.inl ⟨rp_12 ha, Iff.rfl⟩) (fun a b ha hb => ?_) (fun a b c ha hb hc => Or.inl ⟨fun e => rp_23 hz ha0 hb0 e.symm, Iff.rfl⟩) (fun q hq => rp_2e hz ha0 hb0 hq)
  by_cases e : z + b * z + a = z + b0 * z + a0
  · obtain ⟨q1, q2⟩ := rp_22 hz ha hb ha0 hb0 e
    refine Or.inr ⟨e, ?_, ?_⟩
    · show 1 < nn ∧ ((a : Int) < la ∨ ((a : Int) = la ∧ (b : Int) < mi')); omega
    · subst q1
      subst q2
      exact rEN_s hw ⟨m, g, h1, c, f', hM, rfl, fun _ _ => rfl⟩ hx hx0 hy hu hv hw3
  · refine Or.inl ⟨e, ?_⟩
    show (1 < nn ∧ ((a : Int) < la ∨ ((a : Int) = la ∧ (b : Int) < mi'))) ↔ (1 < nn ∧ ((a : Int) < la ∨ ((a : Int) = la ∧ (b : Int) < mi)))
    have : ¬ (a = a0 ∧ b = b0) := fun ⟨q1, q2⟩ => e (by rw [q1, q2])
    omega
theorem rG1_f3 {T : Int32 → Int32 → Int32} (hU : okU U) {z n m m2 a0 b0 c0 : Nat} {f g g2 : Nat → Int32} {nn l1 la mi mj fi fi' : Int} {R1 R2 R3 : Nat → Int32} (h : rG1 U T z n f nn l1 la mi mj fi R1 R2 R3) (hf : prg n 0 65535 f) (ea : (a0 : Int) = la) (eb : (b0 : Int) = mj) (ec : (c0 : Int) = fi) (e' : fi' = fi + 1) (h1 : U a0 n f m g) (h2 : U b0 m g m2 g2) (hno : ∀ (c : Nat) (f2 : Nat → Int32), ¬ U c0 m2 g2 c f2) : rG1 U T z n f nn l1 la mi mj fi' R1 R2 R3 := by
  have k : ∀ (a b c : Nat), (a : Int) = la → (b : Int) = mj → (c : Int) = fi → ∀ c2 f', ¬ UNL U [a, b, c] n f c2 f' := fun a b c e e2 e3 c2 f' hh => by
    have q1 : a = a0 := by omega
    have q2 : b = b0 := by omega
    have q3 : c = c0 := by omega
    subst q1
    subst q2
    subst q3
    exact UNL_no hno _ _ ((UNL_cons hU (hU.2.2.1 _ _ _ _ _ hf h1).2 h2).mp ((UNL_cons hU hf h1).mp hh))
  refine rF1_ch h (fun a ha => ⟨fun s => s, fun s => Or.inl s⟩) (fun a b ha hb => ⟨fun s => s, fun s => Or.inl s⟩) (fun a b c ha hb hc => ⟨fun s => ?_, fun s => ?_⟩)
  · have s : 2 < nn ∧ ((a : Int) < la ∨ ((a : Int) = la ∧ ((b : Int) < mj ∨ ((b : Int) = mj ∧ (c : Int) < fi)))) := s
    show 2 < nn ∧ ((a : Int) < la ∨ ((a : Int) = la ∧ ((b : Int) < mj ∨ ((b : Int) = mj ∧ (c : Int) < fi')))); omega
  · have s : 2 < nn ∧ ((a : Int) < la ∨ ((a : Int) = la ∧ ((b : Int) < mj ∨ ((b : Int) = mj ∧ (c : Int) < fi')))) := s
    by_cases w : (a : Int) = la ∧ (b : Int) = mj ∧ (c : Int) = fi
    · exact Or.inr (k a b c w.1 w.2.1 w.2.2)
    · exact Or.inl (by show 2 < nn ∧ ((a : Int) < la ∨ ((a : Int) = la ∧ ((b : Int) < mj ∨ ((b : Int) = mj ∧ (c : Int) < fi)))); omega)
theorem rG1_w3 {T : Int32 → Int32 → Int32} {z n m m2 c a0 b0 c0 p : Nat} {f g g2 f' : Nat → Int32} {nn l1 la mi mj fi fi' : Int} {x y u v w : Int32} {R1 R1' R2 R2' R3 R3' : Nat → Int32} (h : rG1 U T z n f nn l1 la mi mj fi R1 R2 R3) (hz : z ≤ 6) (hn : 2 < nn) (ha0 : a0 < z) (hb0 : b0 < z) (hc0 : c0 < z) (ea : (a0 : Int) = la) (eb : (b0 : Int) = mj) (ec : (c0 : Int) = fi) (e' : fi' = fi + 1) (ep : p = z + z * z + (c0 * z + b0) * z + a0) (hw : rWP p x y u v w R1 R1' R2 R2' R3 R3') (h1 : U a0 n f m g) (h2 : U b0 m g m2 g2) (hM : U c0 m2 g2 c f') (hx : x.toInt = cT T c f') (hx0 : 0 ≤ x.toInt) (hy : y.toInt = c) (hu : u.toInt = c0) (hv : v.toInt = b0) (hw3 : w.toInt = a0) : rG1 U T z n f nn l1 la mi mj fi' R1' R2' R3' := by
  subst ep
  refine rF1_w h hw (fun a ha => Or.inl ⟨rp_13 ha, Iff.rfl⟩) (fun a b ha hb => Or.inl ⟨rp_23 hz ha hb, Iff.rfl⟩) (fun a b c' ha hb hc => ?_) (fun q hq => rp_3e hz ha0 hb0 hc0 hq)
  by_cases e : z + z * z + (c' * z + b) * z + a = z + z * z + (c0 * z + b0) * z + a0
  · obtain ⟨q1, q2, q3⟩ := rp_33 hz ha hb hc ha0 hb0 hc0 e
    refine Or.inr ⟨e, ?_, ?_⟩
    · show 2 < nn ∧ ((a : Int) < la ∨ ((a : Int) = la ∧ ((b : Int) < mj ∨ ((b : Int) = mj ∧ (c' : Int) < fi')))); omega
    · subst q1
      subst q2
      subst q3
      exact rEN_s hw ⟨m, g, h1, m2, g2, h2, c, f', hM, rfl, fun _ _ => rfl⟩ hx hx0 hy hu hv hw3
  · refine Or.inl ⟨e, ?_⟩
    show (2 < nn ∧ ((a : Int) < la ∨ ((a : Int) = la ∧ ((b : Int) < mj ∨ ((b : Int) = mj ∧ (c' : Int) < fi'))))) ↔ (2 < nn ∧ ((a : Int) < la ∨ ((a : Int) = la ∧ ((b : Int) < mj ∨ ((b : Int) = mj ∧ (c' : Int) < fi)))))
    have : ¬ (a = a0 ∧ b = b0 ∧ c' = c0) := fun ⟨q1, q2, q3⟩ => e (by rw [q1, q2, q3])
    omega
theorem rG1_e3 {T : Int32 → Int32 → Int32} {z n : Nat} {f : Nat → Int32} {nn l1 la mi mj fi : Int} {R1 R2 R3 : Nat → Int32} (h : rG1 U T z n f nn l1 la mi mj fi R1 R2 R3) (em : mi = mj + 1) (hz : (z : Int) ≤ fi ∨ nn ≤ 2) : rG1 U T z n f nn l1 la mi mi 0 R1 R2 R3 := by
  refine rF1_ch h (fun a ha => ⟨fun s => s, fun s => Or.inl s⟩) (fun a b ha hb => ⟨fun s => s, fun s => Or.inl s⟩) (fun a b c ha hb hc => ⟨fun s => ?_, fun s => Or.inl ?_⟩)
  · have s : 2 < nn ∧ ((a : Int) < la ∨ ((a : Int) = la ∧ ((b : Int) < mj ∨ ((b : Int) = mj ∧ (c : Int) < fi)))) := s
    show 2 < nn ∧ ((a : Int) < la ∨ ((a : Int) = la ∧ ((b : Int) < mi ∨ ((b : Int) = mi ∧ (c : Int) < 0)))); omega
  · have s : 2 < nn ∧ ((a : Int) < la ∨ ((a : Int) = la ∧ ((b : Int) < mi ∨ ((b : Int) = mi ∧ (c : Int) < 0)))) := s
    show 2 < nn ∧ ((a : Int) < la ∨ ((a : Int) = la ∧ ((b : Int) < mj ∨ ((b : Int) = mj ∧ (c : Int) < fi)))); omega
theorem rG1_e2 {T : Int32 → Int32 → Int32} {z n : Nat} {f : Nat → Int32} {nn l1 la mi : Int} {R1 R2 R3 : Nat → Int32} (h : rG1 U T z n f nn l1 la mi mi 0 R1 R2 R3) (el : l1 = la + 1) (hz : (z : Int) ≤ mi ∨ nn ≤ 1) : rG1 U T z n f nn l1 l1 0 0 0 R1 R2 R3 := by
  refine rF1_ch h (fun a ha => ⟨fun s => s, fun s => Or.inl s⟩) (fun a b ha hb => ⟨fun s => ?_, fun s => Or.inl ?_⟩) (fun a b c ha hb hc => ⟨fun s => ?_, fun s => Or.inl ?_⟩)
  · have s : 1 < nn ∧ ((a : Int) < la ∨ ((a : Int) = la ∧ (b : Int) < mi)) := s
    show 1 < nn ∧ ((a : Int) < l1 ∨ ((a : Int) = l1 ∧ (b : Int) < 0)); omega
  · have s : 1 < nn ∧ ((a : Int) < l1 ∨ ((a : Int) = l1 ∧ (b : Int) < 0)) := s
    show 1 < nn ∧ ((a : Int) < la ∨ ((a : Int) = la ∧ (b : Int) < mi)); omega
  · have s : 2 < nn ∧ ((a : Int) < la ∨ ((a : Int) = la ∧ ((b : Int) < mi ∨ ((b : Int) = mi ∧ (c : Int) < 0)))) := s
    show 2 < nn ∧ ((a : Int) < l1 ∨ ((a : Int) = l1 ∧ ((b : Int) < 0 ∨ ((b : Int) = 0 ∧ (c : Int) < 0)))); omega
  · have s : 2 < nn ∧ ((a : Int) < l1 ∨ ((a : Int) = l1 ∧ ((b : Int) < 0 ∨ ((b : Int) = 0 ∧ (c : Int) < 0)))) := s
    show 2 < nn ∧ ((a : Int) < la ∨ ((a : Int) = la ∧ ((b : Int) < mi ∨ ((b : Int) = mi ∧ (c : Int) < 0)))); omega
/-- the harm that stands at the place j of a row -/
def nmz (z k code j : Nat) : Int := if k ≤ j then -1 else if j + 1 = k then ((code % z : Nat) : Int) else if j + 2 = k then ((code / z % z : Nat) : Int) else ((code / z / z % z : Nat) : Int)
/-- the book of all rows of at most nn harms that make the text -/
def rGE (U : Nat → Nat → (Nat → Int32) → Nat → (Nat → Int32) → Prop) (T : Int32 → Int32 → Int32) (z n : Nat) (f : Nat → Int32) (nn : Int) (R1 R2 R3 : Nat → Int32) : Prop :=
  (∀ k code : Nat, 1 ≤ k → k ≤ 3 → code < rpz z k → ((k : Int) ≤ nn → rEN T (roff z k + code) (UNL U (digs z k code) n f) (nmz z k code 0) (nmz z k code 1) (nmz z k code 2) R1 R2 R3) ∧ (nn < k → R1 (roff z k + code) = -1)) ∧ ∀ p : Nat, roff z 4 ≤ p → p < 258 → R1 p = -1
theorem rG1_GE {T : Int32 → Int32 → Int32} {z n : Nat} {f : Nat → Int32} {nn la : Int} {R1 R2 R3 : Nat → Int32} (h : rG1 U T z n f nn la la 0 0 0 R1 R2 R3) (hz : z ≤ 6) (hn : 1 ≤ nn) (hl : la = z) : rGE U T z n f nn R1 R2 R3 := by
  refine ⟨fun k code k1 k3' hc => ?_, h.2.2.2⟩
  rcases rk3 k1 k3' with e | e | e <;> subst e
  · have hc : code < z := hc
    obtain ⟨q1, q2⟩ := h.1 code hc
    have e1 : code % z = code := Nat.mod_eq_of_lt hc
    have e2 : roff z 1 + code = code := Nat.zero_add _
    have e3 : digs z 1 code = [code] := by show [code % z] = _; rw [e1]
    have e4 : nmz z 1 code 0 = code := by show ((code % z : Nat) : Int) = _; rw [e1]
    rw [e2, e3, e4]
    exact ⟨fun _ => q1 (by show (code : Int) < la; omega), fun w => by omega⟩
  · have hc : code < z * z := hc
    have zp : 0 < z := Nat.pos_of_ne_zero (fun e => by subst e; omega)
    have b1 : code / z < z := Nat.div_lt_of_lt_mul hc
    have a1 : code % z < z := Nat.mod_lt _ zp
    obtain ⟨q1, q2⟩ := h.2.1 (code % z) (code / z) a1 b1
    have e0 : code / z * z + code % z = code := by rw [Nat.mul_comm]; exact Nat.div_add_mod _ _
    have e1 : z + code / z * z + code % z = roff z 2 + code := by show _ = z + code; omega
    have e2 : code / z % z = code / z := Nat.mod_eq_of_lt b1
    have e3 : digs z 2 code = [code % z, code / z] := by show [code % z, code / z % z] = _; rw [e2]
    have e4 : nmz z 2 code 0 = ((code / z : Nat) : Int) := by show ((code / z % z : Nat) : Int) = _; rw [e2]
    rw [e1] at q1 q2
    rw [e3, e4]
    refine ⟨fun w => q1 ?_, fun w => q2 ?_⟩
    · show 1 < nn ∧ (((code % z : Nat) : Int) < la ∨ (((code % z : Nat) : Int) = la ∧ ((code / z : Nat) : Int) < 0))
      refine ⟨by omega, Or.inl ?_⟩
      rw [hl]; exact Int.ofNat_lt.mpr a1
    · show ¬ (1 < nn ∧ (((code % z : Nat) : Int) < la ∨ (((code % z : Nat) : Int) = la ∧ ((code / z : Nat) : Int) < 0)))
      exact fun w2 => absurd w2.1 (by omega)
  · have hc : code < z * z * z := hc
    have zp : 0 < z := Nat.pos_of_ne_zero (fun e => by subst e; omega)
    have b0 : code / z < z * z := Nat.div_lt_of_lt_mul (by rw [← Nat.mul_assoc]; exact hc)
    have c1 : code / z / z < z := Nat.div_lt_of_lt_mul b0
    have b1 : code / z % z < z := Nat.mod_lt _ zp
    have a1 : code % z < z := Nat.mod_lt _ zp
    obtain ⟨q1, q2⟩ := h.2.2.1 (code % z) (code / z % z) (code / z / z) a1 b1 c1
    have e00 : code / z / z * z + code / z % z = code / z := by rw [Nat.mul_comm]; exact Nat.div_add_mod _ _
    have e0 : code / z * z + code % z = code := by rw [Nat.mul_comm]; exact Nat.div_add_mod _ _
    have e1 : z + z * z + (code / z / z * z + code / z % z) * z + code % z = roff z 3 + code := by rw [e00]; show _ = z + z * z + code; omega
    have e2 : code / z / z % z = code / z / z := Nat.mod_eq_of_lt c1
    have e3 : digs z 3 code = [code % z, code / z % z, code / z / z] := by show [code % z, code / z % z, code / z / z % z] = _; rw [e2]
    have e4 : nmz z 3 code 0 = ((code / z / z : Nat) : Int) := by show ((code / z / z % z : Nat) : Int) = _; rw [e2]
    rw [e1] at q1 q2
    rw [e3, e4]
    refine ⟨fun w => q1 ?_, fun w => q2 ?_⟩
    · show 2 < nn ∧ (((code % z : Nat) : Int) < la ∨ (((code % z : Nat) : Int) = la ∧ (((code / z % z : Nat) : Int) < 0 ∨ (((code / z % z : Nat) : Int) = 0 ∧ ((code / z / z : Nat) : Int) < 0))))
      refine ⟨by omega, Or.inl ?_⟩
      rw [hl]; exact Int.ofNat_lt.mpr a1
    · show ¬ (2 < nn ∧ (((code % z : Nat) : Int) < la ∨ (((code % z : Nat) : Int) = la ∧ (((code / z % z : Nat) : Int) < 0 ∨ (((code / z % z : Nat) : Int) = 0 ∧ ((code / z / z : Nat) : Int) < 0)))))
      exact fun w2 => absurd w2.1 (by omega)
theorem cT_u (hU : okU U) {T : Int32 → Int32 → Int32} {l : List Nat} {n c c' : Nat} {f f1 f2 : Nat → Int32} (hn : n ≤ 300) (hf : prg n 0 65535 f) (h : UNL U l n f c f1) (h' : UNL U l n f c' f2) : cT T c f1 = cT T c' f2 := by
  obtain ⟨q1, q2⟩ := UNL_u hU l _ _ _ _ _ _ hf h h'
  exact cT_congr (by rw [q1]) (by omega) (fun _ _ _ _ _ _ => rfl) (UNL_r hU l _ _ _ _ hn hf h).2 (fun j hj => q2 j (by omega))
/-- a row that makes the text stands in the book -/
theorem ge_y (hU : okU U) {T : Int32 → Int32 → Int32} {z n k code c : Nat} {f f' : Nat → Int32} {nn : Int} {R1 R2 R3 : Nat → Int32} (h : rGE U T z n f nn R1 R2 R3) (hn : n ≤ 300) (hf : prg n 0 65535 f) (k1 : 1 ≤ k) (k2 : k ≤ 3) (k4 : (k : Int) ≤ nn) (hc : code < rpz z k) (hM : UNL U (digs z k code) n f c f') : (R1 (roff z k + code)).toInt = cT T c f' ∧ ¬ R1 (roff z k + code) = -1 ∧ (R2 (roff z k + code)).toInt = c ∧ (R3 (3 * (roff z k + code))).toInt = nmz z k code 0 ∧ (R3 (3 * (roff z k + code) + 1)).toInt = nmz z k code 1 ∧ (R3 (3 * (roff z k + code) + 2)).toInt = nmz z k code 2 ∧ 0 ≤ (R1 (roff z k + code)).toInt := by
  rcases (h.1 k code k1 k2 hc).1 k4 with ⟨c', f2, a1, a2, a3, a4, a5, a6, a7⟩ | ⟨a1, _⟩
  · refine ⟨by rw [a2]; exact cT_u hU hn hf a1 hM, v_nn a7, by rw [a3, (UNL_u hU _ _ _ _ _ _ _ hf a1 hM).1], a4, a5, a6, a7⟩
  · exact absurd hM (a1 _ _)
theorem ge_n {T : Int32 → Int32 → Int32} {z n k code : Nat} {f : Nat → Int32} {nn : Int} {R1 R2 R3 : Nat → Int32} (h : rGE U T z n f nn R1 R2 R3) (k1 : 1 ≤ k) (k2 : k ≤ 3) (hc : code < rpz z k) (hM : ∀ c f', ¬ UNL U (digs z k code) n f c f') : R1 (roff z k + code) = -1 := by
  by_cases k4 : (k : Int) ≤ nn
  · rcases (h.1 k code k1 k2 hc).1 k4 with ⟨c', f2, a1, _⟩ | ⟨_, a1⟩
    · exact absurd a1 (hM _ _)
    · exact a1
  · exact (h.1 k code k1 k2 hc).2 (by omega)
theorem ge_code {T : Int32 → Int32 → Int32} {z n p : Nat} {f : Nat → Int32} {nn : Int} {R1 R2 R3 : Nat → Int32} (h : rGE U T z n f nn R1 R2 R3) (hp : p < 258) (hR : ¬ R1 p = -1) : ∃ k code : Nat, 1 ≤ k ∧ k ≤ 3 ∧ (k : Int) ≤ nn ∧ code < rpz z k ∧ p = roff z k + code ∧ ∃ c f', UNL U (digs z k code) n f c f' := by
  have p4 : p < roff z 4 := by
    by_cases w : roff z 4 ≤ p
    · exact absurd (h.2 p w hp) hR
    · omega
  have s1 := roff_s (z := z) (k := 1) (by omega) (by omega)
  have s2 := roff_s (z := z) (k := 2) (by omega) (by omega)
  have s3 := roff_s (z := z) (k := 3) (by omega) (by omega)
  have o1 : roff z 1 = 0 := rfl
  have o2 : roff z (1 + 1) = roff z 2 := rfl
  have o3 : roff z (2 + 1) = roff z 3 := rfl
  have o4 : roff z (3 + 1) = roff z 4 := rfl
  have ex : ∃ k : Nat, 1 ≤ k ∧ k ≤ 3 ∧ roff z k ≤ p ∧ p < roff z k + rpz z k := by
    by_cases w2 : p < roff z 2
    · exact ⟨1, by omega, by omega, by omega, by omega⟩
    · by_cases w3 : p < roff z 3
      · exact ⟨2, by omega, by omega, by omega, by omega⟩
      · exact ⟨3, by omega, by omega, by omega, by omega⟩
  obtain ⟨k, k1, k2, k5, k6⟩ := ex
  have e : roff z k + (p - roff z k) = p := by omega
  have q := h.1 k (p - roff z k) k1 k2 (by omega)
  rw [e] at q
  by_cases k4 : (k : Int) ≤ nn
  · rcases q.1 k4 with ⟨c', f2, a1, _⟩ | ⟨_, a1⟩
    · exact ⟨k, p - roff z k, k1, k2, k4, by omega, e.symm, c', f2, a1⟩
    · exact absurd a1 hR
  · exact absurd (q.2 (by omega)) hR
/-- how many rows stand ahead of a place -/
def nF (R : Nat → Int32) : Nat → Nat
  | 0 => 0
  | p + 1 => nF R p + (if R p = -1 then 0 else 1)
theorem nF_y {R : Nat → Int32} {p : Nat} (h : ¬ R p = -1) : nF R (p + 1) = nF R p + 1 := by rw [nF, if_neg h]
theorem nF_n {R : Nat → Int32} {p : Nat} (h : R p = -1) : nF R (p + 1) = nF R p := by rw [nF, if_pos h, Nat.add_zero]
theorem nF_m (R : Nat → Int32) {p : Nat} : ∀ q, p ≤ q → nF R p ≤ nF R q
  | 0, h => by have e : p = 0 := by omega
               rw [e]; exact Nat.le_refl _
  | q + 1, h => by
    by_cases e : p = q + 1
    · rw [e]; exact Nat.le_refl _
    · have a := nF_m R (p := p) q (by omega)
      by_cases w : R q = -1
      · rw [nF_n w]; exact a
      · rw [nF_y w]; omega
theorem nF_l (R : Nat → Int32) : ∀ p, nF R p ≤ p
  | 0 => Nat.le_refl _
  | p + 1 => by
    have a := nF_l R p
    by_cases w : R p = -1
    · rw [nF_n w]; omega
    · rw [nF_y w]; omega
theorem nF_z {R : Nat → Int32} {p : Nat} : ∀ q, p ≤ q → (∀ j, p ≤ j → j < q → R j = -1) → nF R q = nF R p
  | 0, h, _ => by have e : p = 0 := by omega
                  rw [e]
  | q + 1, h, hz => by
    by_cases e : p = q + 1
    · rw [e]
    · rw [nF_n (hz q (by omega) (by omega))]
      exact nF_z q (by omega) (fun j h1 h2 => hz j h1 (by omega))
/-- the first of the cheapest -/
def mnP (R : Nat → Int32) (m p : Nat) : Prop := p < m ∧ ¬ R p = -1 ∧ (∀ q, q < m → ¬ R q = -1 → (R p).toInt ≤ (R q).toInt) ∧ ∀ q, q < p → ¬ R q = -1 → (R p).toInt < (R q).toInt
theorem mnP_u {R : Nat → Int32} {m p p' : Nat} (h : mnP R m p) (h' : mnP R m p') : p = p' := by
  obtain ⟨a1, a2, a3, a4⟩ := h
  obtain ⟨b1, b2, b3, b4⟩ := h'
  rcases Nat.lt_trichotomy p p' with z | z | z
  · have q1 := b4 p z a2
    have q2 := a3 p' b1 b2
    omega
  · exact z
  · have q1 := a4 p' z b2
    have q2 := b3 p a1 a2
    omega
theorem mnP_keep {R : Nat → Int32} {m p : Nat} (h : mnP R m p) (hn : R m = -1 ∨ (R p).toInt ≤ (R m).toInt) : mnP R (m + 1) p := by
  obtain ⟨a1, a2, a3, a4⟩ := h
  refine ⟨by omega, a2, fun q hq hr => ?_, a4⟩
  by_cases e : q = m
  · subst e
    exact hn.elim (fun w => absurd w hr) id
  · exact a3 q (by omega) hr
theorem mnP_new {R : Nat → Int32} {m : Nat} (hm : ¬ R m = -1) (h : (∀ q, q < m → R q = -1) ∨ ∃ p, mnP R m p ∧ (R m).toInt < (R p).toInt) : mnP R (m + 1) m := by
  refine ⟨by omega, hm, fun q hq hr => ?_, fun q hq hr => ?_⟩
  · by_cases e : q = m
    · rw [e]; exact Int.le_refl _
    · rcases h with h | ⟨p, h1, h2⟩
      · exact absurd (h q (by omega)) hr
      · have := h1.2.2.1 q (by omega) hr
        omega
  · rcases h with h | ⟨p, h1, h2⟩
    · exact absurd (h q hq) hr
    · have := h1.2.2.1 q hq hr
      omega
/-- cheapest(): while it goes -/
def CHq (R : Nat → Int32) (m be : Int) : Prop := (be = -1 ∧ ∀ q : Nat, (q : Int) < m → R q = -1) ∨ ∃ p : Nat, be = p ∧ mnP R m.toNat p
theorem CHq_0 {R : Nat → Int32} {m be : Int} (h : be = -1) (hm : m ≤ 0) : CHq R m be := Or.inl ⟨h, fun q hq => by omega⟩
theorem CHq_no {R : Nat → Int32} {m m' be : Int32} {x : Int32} (h : CHq R m.toInt be.toInt) (ex : x = R m.toNatClampNeg) (hx : x = -1) (h0 : 0 ≤ m.toInt) (hm : m'.toInt = m.toInt + 1) : CHq R m'.toInt be.toInt := by
  have c := v_clamp h0
  have e1 : m.toInt.toNat = m.toNatClampNeg := by omega
  have e2 : m'.toInt.toNat = m.toNatClampNeg + 1 := by omega
  rcases h with ⟨a1, a2⟩ | ⟨p, a1, a2⟩
  · refine Or.inl ⟨a1, fun q hq => ?_⟩
    by_cases e : q = m.toNatClampNeg
    · rw [e, ← ex]; exact hx
    · exact a2 q (by omega)
  · rw [e1] at a2
    refine Or.inr ⟨p, a1, ?_⟩
    rw [e2]
    exact mnP_keep a2 (Or.inl (by rw [← ex]; exact hx))
theorem CHq_keep {R : Nat → Int32} {m m' be x y : Int32} (h : CHq R m.toInt be.toInt) (ex : x = R m.toNatClampNeg) (ey : y = R be.toNatClampNeg) (hb : ¬ be.toInt = -1) (hxy : y.toInt ≤ x.toInt) (h0 : 0 ≤ m.toInt) (hm : m'.toInt = m.toInt + 1) : CHq R m'.toInt be.toInt := by
  have c := v_clamp h0
  have e1 : m.toInt.toNat = m.toNatClampNeg := by omega
  have e2 : m'.toInt.toNat = m.toNatClampNeg + 1 := by omega
  rcases h with ⟨a1, a2⟩ | ⟨p, a1, a2⟩
  · exact absurd a1 hb
  · rw [e1] at a2
    have e3 : be.toNatClampNeg = p := ix_eq (by omega)
    refine Or.inr ⟨p, a1, ?_⟩
    rw [e2]
    exact mnP_keep a2 (Or.inr (by rw [← ex, ← e3, ← ey]; exact hxy))
theorem CHq_new {R : Nat → Int32} {m m' be x : Int32} (h : CHq R m.toInt be.toInt) (ex : x = R m.toNatClampNeg) (hx : ¬ x = -1) (hc : be.toInt = -1 ∨ ∃ y, y = R be.toNatClampNeg ∧ x.toInt < y.toInt) (h0 : 0 ≤ m.toInt) (hm : m'.toInt = m.toInt + 1) : CHq R m'.toInt m.toInt := by
  have c := v_clamp h0
  have e1 : m.toInt.toNat = m.toNatClampNeg := by omega
  have e2 : m'.toInt.toNat = m.toNatClampNeg + 1 := by omega
  refine Or.inr ⟨m.toNatClampNeg, by omega, ?_⟩
  rw [e2]
  refine mnP_new (by rw [← ex]; exact hx) ?_
  rcases h with ⟨a1, a2⟩ | ⟨p, a1, a2⟩
  · exact Or.inl (fun q hq => a2 q (by omega))
  · rw [e1] at a2
    rcases hc with hc | ⟨y, y1, y2⟩
    · omega
    · have e3 : be.toNatClampNeg = p := ix_eq (by omega)
      exact Or.inr ⟨p, a2, by rw [← ex, ← e3, ← y1]; exact y2⟩
/-- the harms of a row as they stand in the book, the last one first -/
def flk (R : Nat → Int32) (p : Nat) : Nat → List Nat
  | 0 => []
  | j + 1 => if R (3 * p + j) = -1 then flk R p j else (R (3 * p + j)).toNatClampNeg :: flk R p j
theorem flk_digs {z k code p : Nat} {R : Nat → Int32} (k1 : 1 ≤ k) (k2 : k ≤ 3) (n0 : (R (3 * p)).toInt = nmz z k code 0) (n1 : (R (3 * p + 1)).toInt = nmz z k code 1) (n2 : (R (3 * p + 2)).toInt = nmz z k code 2) : flk R p 3 = digs z k code := by
  have m1 : (-1 : Int32).toInt = -1 := rfl
  have st : ∀ (j d : Nat), (R (3 * p + j)).toInt = (d : Int) → flk R p (j + 1) = d :: flk R p j := fun j d e => by
    rw [flk, if_neg (v_nn (by omega)), ix_eq (x := R (3 * p + j)) (N := d) e]
  have sk : ∀ (j : Nat), (R (3 * p + j)).toInt = -1 → flk R p (j + 1) = flk R p j := fun j e => by
    rw [flk, if_pos (v_inj (by rw [m1]; exact e))]
  have n0 : (R (3 * p + 0)).toInt = nmz z k code 0 := n0
  rcases rk3 k1 k2 with e | e | e <;> subst e
  · rw [sk 2 n2, sk 1 n1, st 0 (code % z) n0]; rfl
  · rw [sk 2 n2, st 1 (code % z) n1, st 0 (code / z % z) n0]; rfl
  · rw [st 2 (code % z) n2, st 1 (code / z % z) n1, st 0 (code / z / z % z) n0]; rfl
/-- mend() -/
def mdP (U : Nat → Nat → (Nat → Int32) → Nat → (Nat → Int32) → Prop) (T : Int32 → Int32 → Int32) (z n : Nat) (f : Nat → Int32) (nn gain : Int) (R1 : Nat → Int32) (c : Nat) (fm : Nat → Int32) (v : Int) : Prop :=
  (1 ≤ nn ∧ nn ≤ 3 ∧ 1 ≤ gain ∧ gain ≤ 100000) ∧ ∃ k code : Nat, 1 ≤ k ∧ k ≤ 3 ∧ (k : Int) ≤ nn ∧ code < rpz z k ∧ mnP R1 258 (roff z k + code) ∧ gain ≤ cT T n f - (R1 (roff z k + code)).toInt ∧ UNL U (digs z k code) n f c fm ∧ v = nF R1 (roff z k + code)
theorem off_inj {z k k' c c' : Nat} (k1 : 1 ≤ k) (k2 : k ≤ 3) (k1' : 1 ≤ k') (k2' : k' ≤ 3) (hc : c < rpz z k) (hc' : c' < rpz z k') (h : roff z k + c = roff z k' + c') : k = k' ∧ c = c' := by
  have s := roff_s (z := z) k1 k2
  have s' := roff_s (z := z) k1' k2'
  rcases Nat.lt_trichotomy k k' with w | w | w
  · have := roff_m (z := z) (k := k + 1) (k' := k') (by omega) (by omega) (by omega)
    omega
  · subst w
    exact ⟨rfl, by omega⟩
  · have := roff_m (z := z) (k := k' + 1) (k' := k) (by omega) (by omega) (by omega)
    omega
theorem md_ok (hU : okU U) {T : Int32 → Int32 → Int32} {z n : Nat} {f : Nat → Int32} {nn gain : Int} {R1 : Nat → Int32} (hn : n ≤ 300) (hf : prg n 0 65535 f) (hlz : ∀ (h n c : Nat) (f f' : Nat → Int32), h < z → prg n 0 65535 f → U h n f c f' → ∀ i, i < c → isLz (f' i)) : okQ (mdP U T z n f nn gain R1) := by
  have ll : ∀ (l : List Nat) (n c : Nat) (f f' : Nat → Int32), (∀ h, h ∈ l → h < z) → ¬ l = [] → prg n 0 65535 f → UNL U l n f c f' → ∀ i, i < c → isLz (f' i) := by
    intro l
    induction l with
    | nil => exact fun _ _ _ _ _ h => absurd rfl h
    | cons h t ih =>
      rintro n c f f' hm - hf ⟨m, g, a, b⟩ i hi
      by_cases e : t = []
      · subst e
        rw [b.2 i hi]
        exact hlz h _ _ _ _ (hm h List.mem_cons_self) hf a i (by have := b.1; omega)
      · exact ih _ _ _ _ (fun h' hh => hm h' (List.mem_cons_of_mem _ hh)) e (hU.2.2.1 _ _ _ _ _ hf a).2 b i hi
  rintro c fm v ⟨_, k, code, k1, k2, k4, hc, hm, hg, hM, hv⟩
  have zp : 1 ≤ z := by
    rcases Nat.eq_zero_or_pos z with w | w
    · subst w
      rcases rk3 k1 k2 with e | e | e <;> subst e <;> exact absurd hc (Nat.not_lt_zero _)
    · exact w
  refine ⟨⟨(UNL_r hU _ _ _ _ _ hn hf hM).1, ?_⟩, ?_⟩
  · refine ll _ _ _ _ _ (fun h hh => digs_lt zp _ _ _ hh) ?_ hf hM
    rcases rk3 k1 k2 with e | e | e <;> subst e <;> exact List.cons_ne_nil _ _
  · rintro c' fm' v' ⟨_, k', code', k1', k2', k4', hc', hm', hg', hM', hv'⟩
    obtain ⟨e1, e2⟩ := off_inj k1 k2 k1' k2' hc hc' (mnP_u hm hm')
    subst e1
    subst e2
    obtain ⟨q1, q2⟩ := UNL_u hU _ _ _ _ _ _ _ hf hM hM'
    exact ⟨q1, by rw [hv, hv'], q2⟩
/-- both sides have one book -/
theorem ge_iff (hU : okU U) {T T' : Int32 → Int32 → Int32} {z n : Nat} {f g : Nat → Int32} {nn : Int} {R1 R2 R3 : Nat → Int32} (hV : okU V) (hn : n ≤ 300) (hf : prg n 0 65535 f) (hfg : ∀ i, i < n → f i = g i) (he : ∀ h, h < z → ∀ (n c : Nat) (f f' : Nat → Int32), prg n 0 65535 f → (U h n f c f' ↔ V h n f c f')) (hT : ∀ x y : Int32, 0 ≤ x.toInt → x.toInt ≤ 65535 → 0 ≤ y.toInt → y.toInt ≤ 65535 → T x y = T' x y) (h : rGE U T z n f nn R1 R2 R3) : rGE V T' z n g nn R1 R2 R3 := by
  refine ⟨fun k code k1 k2 hc => ⟨fun k4 => ?_, (h.1 k code k1 k2 hc).2⟩, h.2⟩
  have zp : 1 ≤ z := by
    rcases Nat.eq_zero_or_pos z with w | w
    · subst w
      rcases rk3 k1 k2 with e | e | e <;> subst e <;> exact absurd hc (Nat.not_lt_zero _)
    · exact w
  have iff9 : ∀ c f', UNL U (digs z k code) n f c f' ↔ UNL V (digs z k code) n g c f' := fun c f' =>
    (UNL_iff hU _ _ _ _ _ (fun h hh => he h (digs_lt zp _ _ _ hh)) hf).trans ⟨UNL_g hV _ _ _ _ _ _ hfg, UNL_g hV _ _ _ _ _ _ (fun i hi => (hfg i hi).symm)⟩
  rcases (h.1 k code k1 k2 hc).1 k4 with ⟨c, f', a1, a2, a3⟩ | ⟨a1, a2⟩
  · exact Or.inl ⟨c, f', (iff9 c f').mp a1, a2.trans (cT_congr rfl (by omega) hT (UNL_r hU _ _ _ _ _ hn hf a1).2 (fun _ _ => rfl)), a3⟩
  · exact Or.inr ⟨fun c f' w => a1 c f' ((iff9 c f').mpr w), a2⟩
theorem md_iff (hU : okU U) {T T' : Int32 → Int32 → Int32} {z n : Nat} {f g : Nat → Int32} {nn gain : Int} {R1 : Nat → Int32} (hV : okU V) (hn : n ≤ 300) (hf : prg n 0 65535 f) (hfg : ∀ i, i < n → f i = g i) (he : ∀ h, h < z → ∀ (n c : Nat) (f f' : Nat → Int32), prg n 0 65535 f → (U h n f c f' ↔ V h n f c f')) (hT : ∀ x y : Int32, 0 ≤ x.toInt → x.toInt ≤ 65535 → 0 ≤ y.toInt → y.toInt ≤ 65535 → T x y = T' x y) : ∀ c fm v, mdP U T z n f nn gain R1 c fm v ↔ mdP V T' z n g nn gain R1 c fm v := by
  intro c fm v
  have ct : cT T n f = cT T' n g := cT_congr rfl (by omega) hT hf (fun j hj => hfg j (by omega))
  have iff9 : ∀ (k code : Nat), 1 ≤ k → k ≤ 3 → code < rpz z k → (UNL U (digs z k code) n f c fm ↔ UNL V (digs z k code) n g c fm) := fun k code k1 k2 hc => by
    have zp : 1 ≤ z := by
      rcases Nat.eq_zero_or_pos z with w | w
      · subst w
        rcases rk3 k1 k2 with e | e | e <;> subst e <;> exact absurd hc (Nat.not_lt_zero _)
      · exact w
    exact (UNL_iff hU _ _ _ _ _ (fun h hh => he h (digs_lt zp _ _ _ hh)) hf).trans ⟨UNL_g hV _ _ _ _ _ _ hfg, UNL_g hV _ _ _ _ _ _ (fun i hi => (hfg i hi).symm)⟩
  constructor
  · rintro ⟨a0, k, code, k1, k2, k4, hc, hm, hg, hM, hv⟩
    exact ⟨a0, k, code, k1, k2, k4, hc, hm, by rw [← ct]; exact hg, (iff9 k code k1 k2 hc).mp hM, hv⟩
  · rintro ⟨a0, k, code, k1, k2, k4, hc, hm, hg, hM, hv⟩
    exact ⟨a0, k, code, k1, k2, k4, hc, hm, by rw [ct]; exact hg, (iff9 k code k1 k2 hc).mpr hM, hv⟩
theorem rG1_cg {T : Int32 → Int32 → Int32} {z n : Nat} {f : Nat → Int32} {nn l1 la mi mj fi l1' la' mi' mj' fi' : Int} {R1 R2 R3 : Nat → Int32} (h : rG1 U T z n f nn l1 la mi mj fi R1 R2 R3) (e1 : l1 = l1') (e2 : la = la') (e3 : mi = mi') (e4 : mj = mj') (e5 : fi = fi') : rG1 U T z n f nn l1' la' mi' mj' fi' R1 R2 R3 := by
  subst e1
  subst e2
  subst e3
  subst e4
  subst e5
  exact h
theorem to_p (hU : okU U) {r l : Int32} {f f' : Nat → Int32} {h : Nat} {n : Int} (a : F_to U r l f' h n f) (e : ¬ r.toInt = 0) (hf : prg n 0 65535 f) : prg l.toInt 0 65535 f' := by
  obtain ⟨c, c1, c2⟩ := to_1 a e
  rw [c1]
  exact (hU.2.2.1 _ _ _ _ _ (fun j hj => hf j (by omega)) c2).2
theorem to_ps {r q l a b : Int32} {f f' H1 H2 f41 f42 f43 f51 f52 f53 : Nat → Int32} {h : Nat} {n : Int} (hp : F_ps q l f' a b f41 f51 (Bc a f42 f43 f52 f53) n f) (ea : a = H2 h) (eb : b = H1 h) (hr : r.toInt = q.toInt) : F_to (UC H1 H2 f41 f42 f43 f51 f52 f53) r l f' h n f := by
  have e : r = q := v_inj hr
  subst e
  subst ea
  subst eb
  exact hp
theorem to_ur {r q l a b : Int32} {f f' e1 e2 eL eB : Nat → Int32} {h : Nat} {n : Int} (hp : F_ps q l f' b a (fun k => eL k) (fun k => eL (256 + k)) (Br b eB) n f) (ea : a = e1 h) (eb : b = e2 h) (hr : r.toInt = q.toInt) : F_to (UR e1 e2 eL eB) r l f' h n f := by
  have e : r = q := v_inj hr
  subst e
  subst ea
  subst eb
  exact hp
theorem v_mulz {x a b : Int32} (h : x = a * b) (ha : 0 ≤ a.toInt ∧ a.toInt ≤ 42) (hb : 0 ≤ b.toInt ∧ b.toInt ≤ 6) : x.toInt = ((a.toNatClampNeg * b.toNatClampNeg : Nat) : Int) ∧ 0 ≤ x.toInt ∧ x.toInt ≤ 252 := by
  have c1 := v_clamp ha.1
  have c2 := v_clamp hb.1
  have u : a.toNatClampNeg * b.toNatClampNeg ≤ 42 * 6 := Nat.mul_le_mul (by omega) (by omega)
  have e : a.toInt * b.toInt = ((a.toNatClampNeg * b.toNatClampNeg : Nat) : Int) := by rw [Int.natCast_mul, c1, c2]
  have q := v_mul h (by rw [e]; omega) (by rw [e]; omega)
  rw [e] at q
  exact ⟨q, by omega, by omega⟩
theorem pl2_of {al mi la x p : Int32} (h : x = mi * al) (hp : p.toInt = al.toInt + x.toInt + la.toInt) (ra : 0 ≤ al.toInt ∧ al.toInt ≤ 6) (rm : 0 ≤ mi.toInt ∧ mi.toInt ≤ 5) (rl : 0 ≤ la.toInt) : p.toNatClampNeg = al.toNatClampNeg + mi.toNatClampNeg * al.toNatClampNeg + la.toNatClampNeg := by
  have q := v_mulz h (by omega) ra
  have c1 := v_clamp ra.1
  have c2 := v_clamp rl
  exact ix_eq (by omega)
theorem pl3_of {al fi mi la x1 x2 x3 x4 p : Int32} (h1 : x1 = al * al) (h2 : x2 = fi * al) (h3 : x3.toInt = x2.toInt + mi.toInt) (h4 : x4 = x3 * al) (hp : p.toInt = al.toInt + x1.toInt + x4.toInt + la.toInt) (ra : 0 ≤ al.toInt ∧ al.toInt ≤ 6) (rf : 0 ≤ fi.toInt ∧ fi.toInt ≤ 5) (rm : 0 ≤ mi.toInt ∧ mi.toInt ≤ 5) (rl : 0 ≤ la.toInt) (r2 : x2.toInt ≤ 30) : p.toNatClampNeg = al.toNatClampNeg + al.toNatClampNeg * al.toNatClampNeg + (fi.toNatClampNeg * al.toNatClampNeg + mi.toNatClampNeg) * al.toNatClampNeg + la.toNatClampNeg := by
  have q1 := v_mulz h1 (by omega) ra
  have q2 := v_mulz h2 (by omega) ra
  have cm := v_clamp rm.1
  have c3 : x3.toNatClampNeg = fi.toNatClampNeg * al.toNatClampNeg + mi.toNatClampNeg := ix_eq (by omega)
  have q4 := v_mulz h4 (by omega) ra
  rw [c3] at q4
  have c1 := v_clamp ra.1
  have c2 := v_clamp rl
  exact ix_eq (by omega)
theorem v_mulz5 {x a b : Int32} (h : x = a * b) (ha : 0 ≤ a.toInt ∧ a.toInt ≤ 5) (hb : 0 ≤ b.toInt ∧ b.toInt ≤ 6) : x.toInt ≤ 30 := by
  have c1 := v_clamp ha.1
  have c2 := v_clamp hb.1
  have q := v_mulz h (by omega) hb
  have u : a.toNatClampNeg * b.toNatClampNeg ≤ 5 * 6 := Nat.mul_le_mul (by omega) (by omega)
  omega
def F_no (T : Int32 → Int32 → Int32) (pl l : Int32) (g R1 R1' R2 R2' : Nat → Int32) : Prop := ∃ x : Int32, R1' = upd R1 pl.toNatClampNeg x ∧ x.toInt = cT T l.toInt g ∧ 0 ≤ x.toInt ∧ R2' = upd R2 pl.toNatClampNeg l
def F_nh (pl a b d : Int32) (R3 R3' : Nat → Int32) : Prop := R3' = upd (upd (upd R3 (3 * pl.toNatClampNeg) a) (3 * pl.toNatClampNeg + 1) b) (3 * pl.toNatClampNeg + 2) d
theorem wp_of {T : Int32 → Int32 → Int32} {pl l a b d : Int32} {g R1 R1' R2 R2' R3 R3' : Nat → Int32} (hn : F_no T pl l g R1 R1' R2 R2') (hh : F_nh pl a b d R3 R3') (h0 : 0 ≤ l.toInt) : ∃ x : Int32, rWP pl.toNatClampNeg x l a b d R1 R1' R2 R2' R3 R3' ∧ x.toInt = cT T ((l.toInt.toNat : Nat) : Int) g ∧ 0 ≤ x.toInt := by
  obtain ⟨x, a1, a2, a3, a4⟩ := hn
  have e : ((l.toInt.toNat : Nat) : Int) = l.toInt := by omega
  exact ⟨x, ⟨a1, a4, hh⟩, by rw [e]; exact a2, a3⟩
/-- what build() answers -/
def F_bd (U : Nat → Nat → (Nat → Int32) → Nat → (Nat → Int32) → Prop) (L : List Nat) (r l : Int32) (f' : Nat → Int32) (n : Int) (f : Nat → Int32) : Prop := (r = 1 ∧ ∃ c : Nat, l.toInt = c ∧ UNL U L n.toNat f c f') ∨ (r = 0 ∧ ∀ (c : Nat) (f2 : Nat → Int32), ¬ UNL U L n.toNat f c f2)
def bEq (U : Nat → Nat → (Nat → Int32) → Nat → (Nat → Int32) → Prop) (L L' : List Nat) (n n' : Int) (f f' : Nat → Int32) : Prop := ∀ (c : Nat) (g : Nat → Int32), UNL U L n.toNat f c g ↔ UNL U L' n'.toNat f' c g
theorem bl_cp (hU : okU U) {L L' : List Nat} {n m m' : Int} {f g g' : Nat → Int32} (h : bEq U L L' n m f g) (em : m' = m) (hg : ∀ j : Nat, (j : Int) < m → g' j = g j) : bEq U L L' n m' f g' := by
  subst em
  exact fun c k => (h c k).trans ⟨UNL_g hU _ _ _ _ _ _ (fun i hi => (hg i (by omega)).symm), UNL_g hU _ _ _ _ _ _ (fun i hi => hg i (by omega))⟩
theorem bl_0 (hU : okU U) {R f g : Nat → Int32} {p m : Nat} {n n' : Int} (em : m = 3) (en : n' = n) (hg : ∀ j : Nat, (j : Int) < n → g j = f j) : bEq U (flk R p 3) (flk R p m) n n' f g := by
  subst em
  exact bl_cp hU (fun _ _ => Iff.rfl) en hg
theorem bl_sk {R f g : Nat → Int32} {L : List Nat} {p m m' : Nat} {n n' : Int} {i x : Int32} (h : bEq U L (flk R p m) n n' f g) (em : m = m' + 1) (ex : x = R i.toNatClampNeg) (ei : i.toInt = 3 * p + m') (hx : x = -1) : bEq U L (flk R p m') n n' f g := by
  subst em
  have e : R (3 * p + m') = -1 := by rw [← ix_eq (x := i) (N := 3 * p + m') (by omega), ← ex]; exact hx
  have q : flk R p (m' + 1) = flk R p m' := by rw [flk, if_pos e]
  rw [q] at h
  exact h
theorem flk_y {R : Nat → Int32} {p m : Nat} {i x : Int32} (ex : x = R i.toNatClampNeg) (ei : i.toInt = 3 * p + m) (hx : ¬ x = -1) : flk R p (m + 1) = x.toNatClampNeg :: flk R p m := by
  have e : R (3 * p + m) = x := by rw [← ix_eq (x := i) (N := 3 * p + m) (by omega), ← ex]
  rw [flk, e, if_neg hx]
theorem bl_do (hU : okU U) {R f g g2 g3 : Nat → Int32} {L : List Nat} {p m m' : Nat} {n n' : Int} {i x r l l3 : Int32} (h : bEq U L (flk R p m) n n' f g) (em : m = m' + 1) (ex : x = R i.toNatClampNeg) (ei : i.toInt = 3 * p + m') (hx : ¬ x = -1) (ht : F_to U r l g2 x.toNatClampNeg n' g) (hr : ¬ r.toInt = 0) (hg : prg n' 0 65535 g) (e3 : l3.toInt = l.toInt) (hg3 : ∀ j : Nat, (j : Int) < l.toInt → g3 j = g2 j) : bEq U L (flk R p m') n l3.toInt f g3 := by
  subst em
  rw [flk_y ex ei hx] at h
  exact bl_cp hU (fun c k => (h c k).trans (UNL_cons hU (fun j hj => hg j (by omega)) (to_1n ht hr))) e3 hg3
theorem bl_no {R f g g2 f' : Nat → Int32} {L : List Nat} {p m m' : Nat} {n n' : Int} {i x r l q l9 : Int32} (h : bEq U L (flk R p m) n n' f g) (em : m = m' + 1) (ex : x = R i.toNatClampNeg) (ei : i.toInt = 3 * p + m') (hx : ¬ x = -1) (ht : F_to U r l g2 x.toNatClampNeg n' g) (hr : r.toInt = 0) (hq : q.toInt = 0) : F_bd U L q l9 f' n f := by
  subst em
  rw [flk_y ex ei hx] at h
  exact Or.inr ⟨v_inj hq, fun c k w => UNL_no (to_0 ht hr) _ _ ((h c k).mp w)⟩
theorem bl_end {R f g f' : Nat → Int32} {L : List Nat} {p m : Nat} {n n' : Int} {q l9 : Int32} (h : bEq U L (flk R p m) n n' f g) (em : m = 0) (h0 : 0 ≤ n') (hq : q.toInt = 1) (hl : l9.toInt = n') (hf : ∀ j : Nat, (j : Int) < n' → f' j = g j) : F_bd U L q l9 f' n f := by
  subst em
  exact Or.inl ⟨v_inj hq, n'.toNat, by omega, (h _ _).mpr ⟨rfl, fun i hi => hf i (by omega)⟩⟩
theorem nF_st {R : Nat → Int32} {k k' nu nu' x : Int32} (h : nu.toInt = nF R k.toNatClampNeg) (ex : x = R k.toNatClampNeg) (hc : (x = -1 ∧ nu'.toInt = nu.toInt) ∨ (¬ x = -1 ∧ nu'.toInt = nu.toInt + 1)) (h0 : 0 ≤ k.toInt) (hk : k'.toInt = k.toInt + 1) : nu'.toInt = nF R k'.toNatClampNeg := by
  have c := v_clamp h0
  have e : k'.toNatClampNeg = k.toNatClampNeg + 1 := ix_eq (by omega)
  rw [e]
  rcases hc with ⟨a, b⟩ | ⟨a, b⟩
  · rw [nF_n (by rw [← ex]; exact a)]; omega
  · rw [nF_y (by rw [← ex]; exact a)]; omega
theorem md_none {T : Int32 → Int32 → Int32} {z n : Nat} {f : Nat → Int32} {nn gain be : Int} {R1 : Nat → Int32} (h : CHq R1 258 be) (hb : be = -1) : ∀ c fm v, ¬ mdP U T z n f nn gain R1 c fm v := by
  rintro c fm v ⟨_, k, code, _, _, _, _, hm, _⟩
  rcases h with ⟨_, h⟩ | ⟨p, h, _⟩
  · exact hm.2.1 (h _ (by have := hm.1; omega))
  · omega
theorem ch_mn {R1 : Nat → Int32} {be : Int32} (h : CHq R1 258 be.toInt) (hb : ¬ be.toInt = -1) : mnP R1 258 be.toNatClampNeg := by
  rcases h with ⟨h, _⟩ | ⟨p, h, hm⟩
  · exact absurd h hb
  · rw [ix_eq (x := be) (N := p) h]; exact hm
theorem md_less {T : Int32 → Int32 → Int32} {z n p : Nat} {f : Nat → Int32} {nn gain : Int} {R1 : Nat → Int32} (h : mnP R1 258 p) (hl : cT T n f - (R1 p).toInt < gain) : ∀ c fm v, ¬ mdP U T z n f nn gain R1 c fm v := by
  rintro c fm v ⟨_, k, code, _, _, _, _, hm, hg, _⟩
  rw [← mnP_u h hm] at hg
  omega
theorem ge_pos {T : Int32 → Int32 → Int32} {z n p : Nat} {f : Nat → Int32} {nn : Int} {R1 R2 R3 : Nat → Int32} (h : rGE U T z n f nn R1 R2 R3) (hp : p < 258) (hR : ¬ R1 p = -1) : 0 ≤ (R1 p).toInt := by
  obtain ⟨k, code, k1, k2, k4, hc, e, c, f', hM⟩ := ge_code h hp hR
  subst e
  rcases (h.1 k code k1 k2 hc).1 k4 with ⟨c', f2, a1, a2, a3, a4, a5, a6, a7⟩ | ⟨a1, _⟩
  · exact a7
  · exact absurd hM (a1 _ _)
theorem ge_nm {T : Int32 → Int32 → Int32} {z n p : Nat} {f : Nat → Int32} {nn : Int} {R1 R2 R3 : Nat → Int32} (h : rGE U T z n f nn R1 R2 R3) (hp : p < 258) (hR : ¬ R1 p = -1) : ∀ j : Nat, j < 3 → R3 (3 * p + j) = -1 ∨ (0 ≤ (R3 (3 * p + j)).toInt ∧ (R3 (3 * p + j)).toInt < z) := by
  obtain ⟨k, code, k1, k2, k4, hc, e, c, f', hM⟩ := ge_code h hp hR
  subst e
  have m1 : (-1 : Int32).toInt = -1 := rfl
  have zp : 1 ≤ z := by
    rcases Nat.eq_zero_or_pos z with w | w
    · subst w
      rcases rk3 k1 k2 with e | e | e <;> subst e <;> exact absurd hc (Nat.not_lt_zero _)
    · exact w
  have nm : ∀ j, nmz z k code j = -1 ∨ (0 ≤ nmz z k code j ∧ nmz z k code j < z) := fun j => by
    have l1 : code % z < z := Nat.mod_lt _ zp
    have l2 : code / z % z < z := Nat.mod_lt _ zp
    have l3 : code / z / z % z < z := Nat.mod_lt _ zp
    unfold nmz
    split
    · exact Or.inl rfl
    · split
      · exact Or.inr ⟨Int.natCast_nonneg _, Int.ofNat_lt.mpr l1⟩
      · split
        · exact Or.inr ⟨Int.natCast_nonneg _, Int.ofNat_lt.mpr l2⟩
        · exact Or.inr ⟨Int.natCast_nonneg _, Int.ofNat_lt.mpr l3⟩
  rcases (h.1 k code k1 k2 hc).1 k4 with ⟨c', f2, a1, a2, a3, a4, a5, a6, a7⟩ | ⟨a1, _⟩
  · intro j hj
    have cv : ∀ {u : Int32} {d : Int}, u.toInt = d → (d = -1 ∨ (0 ≤ d ∧ d < z)) → (u = -1 ∨ (0 ≤ u.toInt ∧ u.toInt < z)) := fun e1 e2 => by
      rcases e2 with e2 | e2
      · exact Or.inl (v_inj (by rw [m1]; omega))
      · exact Or.inr (by omega)
    have j3 : j = 0 ∨ j = 1 ∨ j = 2 := by omega
    rcases j3 with e | e | e <;> subst e
    · exact cv a4 (nm 0)
    · exact cv a5 (nm 1)
    · exact cv a6 (nm 2)
  · exact absurd hM (a1 _ _)
/-- the cheapest row is made again -/
theorem md_bld (hU : okU U) {T : Int32 → Int32 → Int32} {z n p : Nat} {f f' : Nat → Int32} {m nn gain v : Int} {r l : Int32} {R1 R2 R3 : Nat → Int32} (h : rGE U T z n f nn R1 R2 R3) (em : m.toNat = n) (hn : n ≤ 300) (hf : prg n 0 65535 f) (hm : mnP R1 258 p) (hb : F_bd U (flk R3 p 3) r l f' m f) : ¬ r.toInt = 0 ∧ ((1 ≤ nn ∧ nn ≤ 3 ∧ 1 ≤ gain ∧ gain ≤ 100000) → gain ≤ cT T n f - (R1 p).toInt → v = nF R1 p → ∃ c : Nat, l.toInt = c ∧ mdP U T z n f nn gain R1 c f' v) := by
  obtain ⟨k, code, k1, k2, k4, hc, e, c, f2, hM⟩ := ge_code h hm.1 hm.2.1
  obtain ⟨g1, g2, g3, g4, g5, g6, g7⟩ := ge_y hU h hn hf k1 k2 k4 hc hM
  subst e
  rw [flk_digs k1 k2 g4 g5 g6] at hb
  unfold F_bd at hb
  rw [em] at hb
  rcases hb with ⟨b1, c', b2, b3⟩ | ⟨_, b2⟩
  · exact ⟨fun w => by rw [b1] at w; exact absurd w (by decide), fun q1 q2 q3 => ⟨c', b2, q1, k, code, k1, k2, k4, hc, hm, q2, b3, q3⟩⟩
  · exact absurd hM (b2 _ _)
end RWS

end

/-! 59q.rows -/
section
set_option maxHeartbeats 40000000 in
set_option maxRecDepth 100000 in
theorem f_X4_takeOff (l : Launch) (dC : Nat → ClassId) (dI : Nat → Nat → Nat) (cI cS : ClassId) (sz : Nat) (oH : Nat) (nx : Nat) (nd : Nat) (oP : Nat) (h1 : Nat) (h2 : Nat) (oC : Nat) (nB : Nat) (aB : Nat) (ax : Nat) (ad : Nat) (o4 : Nat) (o5 : Nat) (a41 : Nat) (a42 : Nat) (a43 : Nat) (a51 : Nat) (a52 : Nat) (a53 : Nat) (lH : Int32) (fH1 : Nat → Int32) (fH2 : Nat → Int32) (ft : Int32) (lB : Int32) (fB : Nat → Int32) (lx : Int32) (fx : Nat → Int32) (ld : Int32) (fd : Nat → Int32) (l4 : Int32) (f41 : Nat → Int32) (f42 : Nat → Int32) (f43 : Nat → Int32) (l5 : Int32) (f51 : Nat → Int32) (f52 : Nat → Int32) (f53 : Nat → Int32) (h : Int32) (g_lH : 0 ≤ lH.toInt ∧ lH.toInt ≤ 6) (g_lB : 0 ≤ lB.toInt ∧ lB.toInt ≤ 2400) (g_lx : 0 ≤ lx.toInt ∧ lx.toInt ≤ 300) (g_ld : 0 ≤ ld.toInt ∧ ld.toInt ≤ 300) (g_h : 0 ≤ h.toInt ∧ h.toInt ≤ 5) (hh : h.toInt < lH.toInt) (hlt : prg lx.toInt 0 65535 fx) (hT4 : HT 512 511 hsT f42 f43) (ho4 : (occ f43 512 : Int) ≤ 511) (hT5 : HT 512 511 hsT f52 f53) (ho5 : (occ f53 512 : Int) ≤ 511) (hL4 : prg 256 (-1) 65535 f41) (hL5 : prg 256 (-1) 65535 f51) (hBr : ∀ cd : Int32, okB (Bc cd f42 f43 f52 f53)) : kMi l yX4_takeOff wsX4_takeOff ({ frames := 5, cells := 0, slots := 0, locals := 124 } : Room) [.ref oH, .int h, .ref nx, .ref nd] sz (dC, dI) vwCl [(cI, .int), (cS, .short)] [(oH, .inr (4, [.ref oP, .ref h1, .ref h2, .int lH])), (h1, .inl (cI, 6, .inl fH1)), (h2, .inl (cI, 6, .inl fH2)), (oP, .inr (7, [.ref oC, .ref nB, .int ft])), (nB, .inr (5, [.ref aB, .int lB])), (aB, .inl (cI, 2400, .inl fB)), (nx, .inr (5, [.ref ax, .int lx])), (ax, .inl (cI, 300, .inl fx)), (nd, .inr (5, [.ref ad, .int ld])), (ad, .inl (cI, 300, .inl fd)), (oC, .inr (2, [.ref o4, .ref o5])), (o4, .inr (10, [.ref a41, .ref a42, .ref a43, .int l4])), (a41, .inl (cI, 256, .inl f41)), (a42, .inl (cI, 512, .inl f42)), (a43, .inl (cI, 512, .inl f43)), (o5, .inr (10, [.ref a51, .ref a52, .ref a53, .int l5])), (a51, .inl (cI, 256, .inl f51)), (a52, .inl (cI, 512, .inl f52)), (a53, .inl (cI, 512, .inl f53))] (va_Nw (.methodLinkNest RX2 52 yX11_isLetter "TextMender")) 0 0 (fun (A : Nat → Prop) (r : Int32) (hh9 : Heap) => ∃ (ft' : Int32) (lB' : Int32) (fB' : Nat → Int32) (ld' : Int32) (fd' : Nat → Int32), kPD (dC, dI) vwCl A [(oH, .inr (4, [.ref oP, .ref h1, .ref h2, .int lH])), (h1, .inl (cI, 6, .inl fH1)), (h2, .inl (cI, 6, .inl fH2)), (oP, .inr (7, [.ref oC, .ref nB, .int ft'])), (nB, .inr (5, [.ref aB, .int lB'])), (aB, .inl (cI, 2400, .inl fB')), (nx, .inr (5, [.ref ax, .int lx])), (ax, .inl (cI, 300, .inl fx)), (nd, .inr (5, [.ref ad, .int ld'])), (ad, .inl (cI, 300, .inl fd')), (oC, .inr (2, [.ref o4, .ref o5])), (o4, .inr (10, [.ref a41, .ref a42, .ref a43, .int l4])), (a41, .inl (cI, 256, .inl f41)), (a42, .inl (cI, 512, .inl f42)), (a43, .inl (cI, 512, .inl f43)), (o5, .inr (10, [.ref a51, .ref a52, .ref a53, .int l5])), (a51, .inl (cI, 256, .inl f51)), (a52, .inl (cI, 512, .inl f52)), (a53, .inl (cI, 512, .inl f53))] hh9 ∧ (0 ≤ lB'.toInt ∧ lB'.toInt ≤ 2400) ∧ (0 ≤ ld'.toInt ∧ ld'.toInt ≤ 300) ∧ (0 ≤ r.toInt ∧ r.toInt ≤ 1) ∧ (F_to (UC fH1 fH2 f41 f42 f43 f51 f52 f53) r ld' fd' h.toNatClampNeg lx.toInt fx)) := by
  refine kMi_of (cc := cX4_takeOff) (maxL := 4) (ret := (some .boolean)) (lv := [(0, .ref oH), (1, .int h), (2, .ref nx), (3, .ref nd)]) (by decide +kernel) rfl rfl (Nat.le_of_ble_eq_true rfl) ?_
  intro p e s m below meth c A QQ ls hx hb hr hts hml hown hlocks hA hQQ hK hX hP hD hS hl
  have hown : s.vm.findClass RX4 = some m.cls := hown
  have hcf := k_cf hx hb hml hown hts
  have hN52 := hX
  have in_X4 : ∀ w ∈ wsX40, w ∈ wsX4_takeOff := fun _ h => List.mem_cons_of_mem _ (List.mem_append_left _ (List.mem_append_left _ (List.mem_append_left _ (List.mem_append_left _ (List.mem_append_right _ (h))))))
  replace g_lB := hid g_lB
  replace g_ld := hid g_ld
  have z0 : (0 : Int32).toInt = 0 := rfl
  have z1 : (1 : Int32).toInt = 1 := rfl
  have zm1 : (-1 : Int32).toInt = -1 := rfl
  refine lv_iload_n hx hb dX4_takeOff_0 rfl (lv_at hl 1 rfl) ?_
  refine lv_if_lt (tgt := 40) hx hb dX4_takeOff_1 (by decide) (fun c_1 => by exfalso; have tc_1 : h.toInt < 0 := v_lt c_1; omega) (fun c_1 => ?_)
  have tc_1 : 0 ≤ h.toInt := v_nlt c_1
  refine lv_iload_n hx hb dX4_takeOff_4 rfl (lv_at hl 1 rfl) ?_
  refine lv_aload_n hx hb dX4_takeOff_5 rfl (lv_at hl 0 rfl) ?_
  refine va_get (D := (dC, dI)) (ci := 4) (v := .int lH) (C := RX4) (T := TX4) (N := 4) hx hb hts in_X4 hown hK hP 0 rfl rfl 3 (by decide) (hts (.fieldLink RX4 22 "TextMender$Harms" "length" "I") (List.mem_of_getElem? (i := 1) rfl)) (fun _ h9 => h9) rfl dX4_takeOff_6 ?_
  refine lv_icmp_ge (tgt := 40) hx hb dX4_takeOff_9 (by decide) (fun c_2 => by exfalso; have tc_2 : lH.toInt ≤ h.toInt := v_le c_2; omega) (fun c_2 => ?_)
  have tc_2 : h.toInt < lH.toInt := v_nle c_2
  refine lv_aload_n hx hb dX4_takeOff_12 rfl (lv_at hl 0 rfl) ?_
  refine va_get (D := (dC, dI)) (ci := 4) (v := .ref oP) (C := RX4) (T := TX4) (N := 4) hx hb hts in_X4 hown hK hP 0 rfl rfl 0 (by decide) (hts (.fieldLink RX4 18 "TextMender$Harms" "passage" "LTextMender$Passage;") (List.mem_of_getElem? (i := 2) rfl)) (fun _ h9 => h9) rfl dX4_takeOff_13 ?_
  refine lv_aload_n hx hb dX4_takeOff_16 rfl (lv_at hl 0 rfl) ?_
  refine va_get (D := (dC, dI)) (ci := 4) (v := .ref h2) (C := RX4) (T := TX4) (N := 4) hx hb hts in_X4 hown hK hP 0 rfl rfl 2 (by decide) (hts (.fieldLink RX4 15 "TextMender$Harms" "readIn" "[I") (List.mem_of_getElem? (i := 3) rfl)) (fun _ h9 => h9) rfl dX4_takeOff_17 ?_
  refine lv_iload_n hx hb dX4_takeOff_20 rfl (lv_at hl 1 rfl) ?_
  refine va_iald hx hb hK hP 2 0 rfl rfl (v_inR g_h (by decide) (by decide)) dX4_takeOff_21 ?_
  refine lv_topi (fun x_3 ex_3 => ?_)
  refine lv_aload_n hx hb dX4_takeOff_22 rfl (lv_at hl 0 rfl) ?_
  refine va_get (D := (dC, dI)) (ci := 4) (v := .ref h1) (C := RX4) (T := TX4) (N := 4) hx hb hts in_X4 hown hK hP 0 rfl rfl 1 (by decide) (hts (.fieldLink RX4 9 "TextMender$Harms" "writtenIn" "[I") (List.mem_of_getElem? (i := 4) rfl)) (fun _ h9 => h9) rfl dX4_takeOff_23 ?_
  refine lv_iload_n hx hb dX4_takeOff_26 rfl (lv_at hl 1 rfl) ?_
  refine va_iald hx hb hK hP 1 0 rfl rfl (v_inR g_h (by decide) (by decide)) dX4_takeOff_27 ?_
  refine lv_topi (fun x_4 ex_4 => ?_)
  refine lv_aload_n hx hb dX4_takeOff_28 rfl (lv_at hl 2 rfl) ?_
  refine lv_aload_n hx hb dX4_takeOff_29 rfl (lv_at hl 3 rfl) ?_
  refine kV_i (rest := []) (q0 := 0) (ci := 7) hcf (f_X7_pass l dC dI cI cS s.heap.size oP nx nd oC nB aB ax ad o4 o5 a41 a42 a43 a51 a52 a53 ft lB fB lx fx ld fd l4 f41 f42 f43 l5 f51 f52 f53 x_3 x_4 (g_lB) (g_lx) (g_ld) (hlt) (hT4) (by omega) (hT5) (by omega) (hL4) (hL5) (hBr x_3)) kc_X7_pass gX4_takeOff_X7_pass rfl rfl rfl ⟨Nat.le_of_ble_eq_true rfl, Nat.le_of_ble_eq_true rfl⟩ (kX_1 hN52) hK hP hD hS hA [3, 4, 5, 6, 7, 8, 9, 10, 11, 12, 13, 14, 15, 16, 17, 18] [0, 1, 2] rfl (by decide +kernel) rfl rfl rfl hl rfl (Nat.le_of_ble_eq_true rfl) dX4_takeOff_30 ⟨Nat.le_of_ble_eq_true rfl, Nat.le_of_ble_eq_true rfl⟩ (fun r_5 H locs hB hJ hSn => ?_)
  obtain ⟨ft_5, lB_5, fB_5, ld_5, fd_5, ⟨hP1, hD1⟩, hf5_0, hf5_1, hf5_2, hf5_3⟩ := hB
  obtain ⟨hPn, hDn⟩ := hJ _ hP1 hD1 [(oH, .inr (4, [.ref oP, .ref h1, .ref h2, .int lH])), (h1, .inl (cI, 6, .inl fH1)), (h2, .inl (cI, 6, .inl fH2)), (oP, .inr (7, [.ref oC, .ref nB, .int ft_5])), (nB, .inr (5, [.ref aB, .int lB_5])), (aB, .inl (cI, 2400, .inl fB_5)), (nx, .inr (5, [.ref ax, .int lx])), (ax, .inl (cI, 300, .inl fx)), (nd, .inr (5, [.ref ad, .int ld_5])), (ad, .inl (cI, 300, .inl fd_5)), (oC, .inr (2, [.ref o4, .ref o5])), (o4, .inr (10, [.ref a41, .ref a42, .ref a43, .int l4])), (a41, .inl (cI, 256, .inl f41)), (a42, .inl (cI, 512, .inl f42)), (a43, .inl (cI, 512, .inl f43)), (o5, .inr (10, [.ref a51, .ref a52, .ref a53, .int l5])), (a51, .inl (cI, 256, .inl f51)), (a52, .inl (cI, 512, .inl f52)), (a53, .inl (cI, 512, .inl f53))] rfl
  clear hP hD hS hJ hP1 hD1
  have hP := hPn
  have hD := hDn
  have hS := hSn
  clear hPn hDn hSn
  refine lv_if_eq (tgt := 40) hx hb dX4_takeOff_33 (by decide) (fun c_6 => ?_) (fun c_6 => ?_)
  · have tc_6 : r_5.toInt = 0 := v_eq c_6
    refine lv_iconst (v := 0) hx hb dX4_takeOff_40 (by decide) ?_
    exact kl_z (v := 0) hQQ hx hb hr hlocks hS dX4_takeOff_41 (rfl) ⟨ft_5, lB_5, fB_5, ld_5, fd_5, ⟨hP, hD⟩, hf5_0, hf5_1, by decide, to_ps hf5_3 ex_3 ex_4 (by omega)⟩
  · have tc_6 : ¬ r_5.toInt = 0 := v_ne c_6
    refine lv_iconst (v := 1) hx hb dX4_takeOff_36 (by decide) ?_
    refine lv_goto (tgt := 41) hx hb dX4_takeOff_37 (by decide) ?_
    exact kl_z (v := 1) hQQ hx hb hr hlocks hS dX4_takeOff_41 (rfl) ⟨ft_5, lB_5, fB_5, ld_5, fd_5, ⟨hP, hD⟩, hf5_0, hf5_1, by decide, to_ps hf5_3 ex_3 ex_4 (by omega)⟩

set_option maxHeartbeats 40000000 in
set_option maxRecDepth 100000 in
theorem f_X9_nameHarms (l : Launch) (dC : Nat → ClassId) (dI : Nat → Nat → Nat) (cI cS : ClassId) (sz : Nat) (oR : Nat) (oH : Nat) (oK : Nat) (n1 : Nat) (n2 : Nat) (n3 : Nat) (r1 : Nat) (r2 : Nat) (r3 : Nat) (r4 : Nat) (r5 : Nat) (r6 : Nat) (lR : Int32) (fR3 : Nat → Int32) (pl : Int32) (a : Int32) (b : Int32) (d : Int32) (g_lR : 0 ≤ lR.toInt ∧ lR.toInt ≤ 258) (g_pl : 0 ≤ pl.toInt ∧ pl.toInt ≤ 257) : kMv l yX9_nameHarms wsX9_nameHarms ({ frames := 0, cells := 0, slots := 0, locals := 0 } : Room) [.ref oR, .int pl, .int a, .int b, .int d] sz (dC, dI) vwCl [(cI, .int), (cS, .short)] [(oR, .inr (9, [.ref oH, .ref oK, .ref n1, .ref n2, .ref n3, .ref r1, .ref r2, .ref r3, .ref r4, .ref r5, .ref r6, .int lR])), (r3, .inl (cI, 774, .inl fR3))] (fun _ => True) 0 0 (fun (A : Nat → Prop) (hh9 : Heap) => ∃ (fR3' : Nat → Int32), kPD (dC, dI) vwCl A [(oR, .inr (9, [.ref oH, .ref oK, .ref n1, .ref n2, .ref n3, .ref r1, .ref r2, .ref r3, .ref r4, .ref r5, .ref r6, .int lR])), (r3, .inl (cI, 774, .inl fR3'))] hh9 ∧ (F_nh pl a b d fR3 fR3')) := by
  refine kMv_of (cc := cX9_nameHarms) (maxL := 5) (ret := none) (lv := [(0, .ref oR), (1, .int pl), (2, .int a), (3, .int b), (4, .int d)]) (by decide +kernel) rfl rfl (Nat.le_of_ble_eq_true rfl) ?_
  intro p e s m below meth c A QQ ls hx hb hr hts hml hown hlocks hA hQQ hK hX hP hD hS hl
  have hown : s.vm.findClass RX9 = some m.cls := hown
  have hcf := k_cf hx hb hml hown hts
  have in_X9 : ∀ w ∈ wsX90, w ∈ wsX9_nameHarms := fun _ h => List.mem_cons_of_mem _ (List.mem_append_right _ (h))
  have c0 := v_clamp (x := pl) (by omega)
  refine lv_iload_n hx hb dX9_nameHarms_0 rfl (lv_at hl 1 rfl) ?_
  refine lv_if_lt (tgt := 43) hx hb dX9_nameHarms_1 (by decide) (fun c_1 => by exfalso; have tc_1 : pl.toInt < 0 := v_lt c_1; omega) (fun c_1 => ?_)
  have tc_1 : 0 ≤ pl.toInt := v_nlt c_1
  refine lv_iload_n hx hb dX9_nameHarms_4 rfl (lv_at hl 1 rfl) ?_
  refine lv_sipush (v := 258) hx hb dX9_nameHarms_5 (by decide) ?_
  refine lv_icmp_ge (tgt := 43) hx hb dX9_nameHarms_8 (by decide) (fun c_2 => by exfalso; have tc_2 : 258 ≤ pl.toInt := v_le c_2; omega) (fun c_2 => ?_)
  have tc_2 : pl.toInt < 258 := v_nle c_2
  refine lv_aload_n hx hb dX9_nameHarms_11 rfl (lv_at hl 0 rfl) ?_
  refine va_get (D := (dC, dI)) (ci := 9) (v := .ref r3) (C := RX9) (T := TX9) (N := 12) hx hb hts in_X9 hown hK hP 0 rfl rfl 7 (by decide) (hts (.fieldLink RX9 33 "TextMender$Rows" "foundHarms" "[I") (List.mem_of_getElem? (i := 1) rfl)) (fun _ h9 => h9) rfl dX9_nameHarms_12 ?_
  refine lv_iload_n hx hb dX9_nameHarms_15 rfl (lv_at hl 1 rfl) ?_
  refine lv_iconst (v := 3) hx hb dX9_nameHarms_16 (by decide) ?_
  refine lv_imul hx hb dX9_nameHarms_17 ?_
  refine lv_topi (fun x_3 ex_3 => ?_)
  have tx_3 : x_3.toInt = pl.toInt * 3 := v_mul ex_3 (by show -2147483648 ≤ pl.toInt * 3; omega) (by show pl.toInt * 3 < 2147483648; omega)
  refine lv_iload_n hx hb dX9_nameHarms_18 rfl (lv_at hl 2 rfl) ?_
  obtain ⟨f_4, ef_4⟩ : ∃ g : Nat → Int32, g = upd fR3 (x_3 : Int32).toNatClampNeg a := ⟨_, rfl⟩
  refine va_iast hx hb hK hP hD hS 1 0 rfl rfl (v_in (by omega)) dX9_nameHarms_19 (kWf (g := f_4) (F := fun f_4 => [(oR, .inr (9, [.ref oH, .ref oK, .ref n1, .ref n2, .ref n3, .ref r1, .ref r2, .ref r3, .ref r4, .ref r5, .ref r6, .int lR])), (r3, .inl (cI, 774, .inl f_4))]) ef_4 rfl (fun H locs hPn hDn hSn => ?_))
  clear hP hD hS
  have hP := hPn
  have hD := hDn
  have hS := hSn
  clear hPn hDn hSn
  refine lv_aload_n hx hb dX9_nameHarms_20 rfl (lv_at hl 0 rfl) ?_
  refine va_get (D := (dC, dI)) (ci := 9) (v := .ref r3) (C := RX9) (T := TX9) (N := 12) hx hb hts in_X9 hown hK hP 0 rfl rfl 7 (by decide) (hts (.fieldLink RX9 33 "TextMender$Rows" "foundHarms" "[I") (List.mem_of_getElem? (i := 1) rfl)) (fun _ h9 => h9) rfl dX9_nameHarms_21 ?_
  refine lv_iload_n hx hb dX9_nameHarms_24 rfl (lv_at hl 1 rfl) ?_
  refine lv_iconst (v := 3) hx hb dX9_nameHarms_25 (by decide) ?_
  refine lv_imul hx hb dX9_nameHarms_26 ?_
  refine lv_topi (fun x_5 ex_5 => ?_)
  have tx_5 : x_5.toInt = pl.toInt * 3 := v_mul ex_5 (by show -2147483648 ≤ pl.toInt * 3; omega) (by show pl.toInt * 3 < 2147483648; omega)
  refine lv_iconst (v := 1) hx hb dX9_nameHarms_27 (by decide) ?_
  refine lv_iadd hx hb dX9_nameHarms_28 ?_
  refine lv_topi (fun x_6 ex_6 => ?_)
  have tx_6 : x_6.toInt = x_5.toInt + 1 := v_add ex_6 (by show -2147483648 ≤ x_5.toInt + 1; omega) (by show x_5.toInt + 1 < 2147483648; omega)
  refine lv_iload_n hx hb dX9_nameHarms_29 rfl (lv_at hl 3 rfl) ?_
  obtain ⟨f_7, ef_7⟩ : ∃ g : Nat → Int32, g = upd f_4 (x_6 : Int32).toNatClampNeg b := ⟨_, rfl⟩
  refine va_iast hx hb hK hP hD hS 1 0 rfl rfl (v_in (by omega)) dX9_nameHarms_30 (kWf (g := f_7) (F := fun f_7 => [(oR, .inr (9, [.ref oH, .ref oK, .ref n1, .ref n2, .ref n3, .ref r1, .ref r2, .ref r3, .ref r4, .ref r5, .ref r6, .int lR])), (r3, .inl (cI, 774, .inl f_7))]) ef_7 rfl (fun H locs hPn hDn hSn => ?_))
  clear hP hD hS
  have hP := hPn
  have hD := hDn
  have hS := hSn
  clear hPn hDn hSn
  refine lv_aload_n hx hb dX9_nameHarms_31 rfl (lv_at hl 0 rfl) ?_
  refine va_get (D := (dC, dI)) (ci := 9) (v := .ref r3) (C := RX9) (T := TX9) (N := 12) hx hb hts in_X9 hown hK hP 0 rfl rfl 7 (by decide) (hts (.fieldLink RX9 33 "TextMender$Rows" "foundHarms" "[I") (List.mem_of_getElem? (i := 1) rfl)) (fun _ h9 => h9) rfl dX9_nameHarms_32 ?_
  refine lv_iload_n hx hb dX9_nameHarms_35 rfl (lv_at hl 1 rfl) ?_
  refine lv_iconst (v := 3) hx hb dX9_nameHarms_36 (by decide) ?_
  refine lv_imul hx hb dX9_nameHarms_37 ?_
  refine lv_topi (fun x_8 ex_8 => ?_)
  have tx_8 : x_8.toInt = pl.toInt * 3 := v_mul ex_8 (by show -2147483648 ≤ pl.toInt * 3; omega) (by show pl.toInt * 3 < 2147483648; omega)
  refine lv_iconst (v := 2) hx hb dX9_nameHarms_38 (by decide) ?_
  refine lv_iadd hx hb dX9_nameHarms_39 ?_
  refine lv_topi (fun x_9 ex_9 => ?_)
  have tx_9 : x_9.toInt = x_8.toInt + 2 := v_add ex_9 (by show -2147483648 ≤ x_8.toInt + 2; omega) (by show x_8.toInt + 2 < 2147483648; omega)
  refine lv_iload hx hb dX9_nameHarms_40 (lv_at hl 4 rfl) ?_
  obtain ⟨f_10, ef_10⟩ : ∃ g : Nat → Int32, g = upd f_7 (x_9 : Int32).toNatClampNeg d := ⟨_, rfl⟩
  refine va_iast hx hb hK hP hD hS 1 0 rfl rfl (v_in (by omega)) dX9_nameHarms_42 (kWf (g := f_10) (F := fun f_10 => [(oR, .inr (9, [.ref oH, .ref oK, .ref n1, .ref n2, .ref n3, .ref r1, .ref r2, .ref r3, .ref r4, .ref r5, .ref r6, .int lR])), (r3, .inl (cI, 774, .inl f_10))]) ef_10 rfl (fun H locs hPn hDn hSn => ?_))
  clear hP hD hS
  have hP := hPn
  have hD := hDn
  have hS := hSn
  clear hPn hDn hSn
  exact kl_v hQQ hx hb hr hlocks hS dX9_nameHarms_43 ⟨f_10, ⟨hP, hD⟩, by show _ = _; rw [ef_10, ef_7, ef_4, ix_eq (x := x_3) (N := 3 * pl.toNatClampNeg) (by omega), ix_eq (x := x_6) (N := 3 * pl.toNatClampNeg + 1) (by omega), ix_eq (x := x_9) (N := 3 * pl.toNatClampNeg + 2) (by omega)]⟩

set_option maxHeartbeats 40000000 in
set_option maxRecDepth 100000 in
theorem f_X9_note (l : Launch) (dC : Nat → ClassId) (dI : Nat → Nat → Nat) (cI cS : ClassId) (sz : Nat) (oR : Nat) (nx : Nat) (oH : Nat) (oK : Nat) (n1 : Nat) (n2 : Nat) (n3 : Nat) (r1 : Nat) (r2 : Nat) (r3 : Nat) (r4 : Nat) (r5 : Nat) (r6 : Nat) (k1 : Nat) (k2 : Nat) (ax : Nat) (lR : Int32) (fR1 : Nat → Int32) (fR2 : Nat → Int32) (lK : Int32) (fK1 : Nat → Int32) (fK2 : Nat → Int32) (lx : Int32) (fx : Nat → Int32) (pl : Int32) (g_lR : 0 ≤ lR.toInt ∧ lR.toInt ≤ 258) (g_lK : 0 ≤ lK.toInt ∧ lK.toInt ≤ 300) (g_lx : 0 ≤ lx.toInt ∧ lx.toInt ≤ 300) (g_pl : 0 ≤ pl.toInt ∧ pl.toInt ≤ 257) (hT : HT 1024 1023 hsK fK1 fK2) (ho : (occ fK2 1024 : Int) ≤ lK.toInt) (hV : prg 1024 (-1) 200 fK2) (hlt : prg lx.toInt 0 65535 fx) : kMv l yX9_note wsX9_note ({ frames := 4, cells := 0, slots := 0, locals := 98 } : Room) [.ref oR, .int pl, .ref nx] sz (dC, dI) vwCl [(cI, .int), (cS, .short)] [(oR, .inr (9, [.ref oH, .ref oK, .ref n1, .ref n2, .ref n3, .ref r1, .ref r2, .ref r3, .ref r4, .ref r5, .ref r6, .int lR])), (r1, .inl (cI, 258, .inl fR1)), (r2, .inl (cI, 258, .inl fR2)), (oK, .inr (3, [.ref k1, .ref k2, .int lK])), (k1, .inl (cI, 1024, .inl fK1)), (k2, .inl (cI, 1024, .inl fK2)), (nx, .inr (5, [.ref ax, .int lx])), (ax, .inl (cI, 300, .inl fx))] (fun _ => True) 0 0 (fun (A : Nat → Prop) (hh9 : Heap) => ∃ (fR1' : Nat → Int32) (fR2' : Nat → Int32), kPD (dC, dI) vwCl A [(oR, .inr (9, [.ref oH, .ref oK, .ref n1, .ref n2, .ref n3, .ref r1, .ref r2, .ref r3, .ref r4, .ref r5, .ref r6, .int lR])), (r1, .inl (cI, 258, .inl fR1')), (r2, .inl (cI, 258, .inl fR2')), (oK, .inr (3, [.ref k1, .ref k2, .int lK])), (k1, .inl (cI, 1024, .inl fK1)), (k2, .inl (cI, 1024, .inl fK2)), (nx, .inr (5, [.ref ax, .int lx])), (ax, .inl (cI, 300, .inl fx))] hh9 ∧ (F_no (tcC fK1 fK2) pl lx fx fR1 fR1' fR2 fR2')) := by
  refine kMv_of (cc := cX9_note) (maxL := 3) (ret := none) (lv := [(0, .ref oR), (1, .int pl), (2, .ref nx)]) (by decide +kernel) rfl rfl (Nat.le_of_ble_eq_true rfl) ?_
  intro p e s m below meth c A QQ ls hx hb hr hts hml hown hlocks hA hQQ hK hX hP hD hS hl
  have hown : s.vm.findClass RX9 = some m.cls := hown
  have hcf := k_cf hx hb hml hown hts
  have in_X9 : ∀ w ∈ wsX90, w ∈ wsX9_note := fun _ h => List.mem_cons_of_mem _ (List.mem_append_left _ (List.mem_append_left _ (List.mem_append_right _ (h))))
  replace g_lR := hid g_lR
  refine lv_iload_n hx hb dX9_note_0 rfl (lv_at hl 1 rfl) ?_
  refine lv_if_lt (tgt := 35) hx hb dX9_note_1 (by decide) (fun c_1 => by exfalso; have tc_1 : pl.toInt < 0 := v_lt c_1; omega) (fun c_1 => ?_)
  have tc_1 : 0 ≤ pl.toInt := v_nlt c_1
  refine lv_iload_n hx hb dX9_note_4 rfl (lv_at hl 1 rfl) ?_
  refine lv_sipush (v := 258) hx hb dX9_note_5 (by decide) ?_
  refine lv_icmp_ge (tgt := 35) hx hb dX9_note_8 (by decide) (fun c_2 => by exfalso; have tc_2 : 258 ≤ pl.toInt := v_le c_2; omega) (fun c_2 => ?_)
  have tc_2 : pl.toInt < 258 := v_nle c_2
  refine lv_aload_n hx hb dX9_note_11 rfl (lv_at hl 0 rfl) ?_
  refine va_get (D := (dC, dI)) (ci := 9) (v := .ref r1) (C := RX9) (T := TX9) (N := 12) hx hb hts in_X9 hown hK hP 0 rfl rfl 5 (by decide) (hts (.fieldLink RX9 26 "TextMender$Rows" "foundCost" "[I") (List.mem_of_getElem? (i := 1) rfl)) (fun _ h9 => h9) rfl dX9_note_12 ?_
  refine lv_iload_n hx hb dX9_note_15 rfl (lv_at hl 1 rfl) ?_
  refine lv_aload_n hx hb dX9_note_16 rfl (lv_at hl 0 rfl) ?_
  refine va_get (D := (dC, dI)) (ci := 9) (v := .ref oK) (C := RX9) (T := TX9) (N := 12) hx hb hts in_X9 hown hK hP 0 rfl rfl 1 (by decide) (hts (.fieldLink RX9 49 "TextMender$Rows" "costs" "LTextMender$Costs;") (List.mem_of_getElem? (i := 2) rfl)) (fun _ h9 => h9) rfl dX9_note_17 ?_
  refine lv_aload_n hx hb dX9_note_20 rfl (lv_at hl 2 rfl) ?_
  refine kV_i (rest := [.int pl, .ref r1]) (q0 := 0) (ci := 3) hcf (f_X3_ofText l dC dI cI cS s.heap.size oK nx k1 k2 ax lK fK1 fK2 lx fx (g_lK) (g_lx) (hT) (ho) (hV) (hlt)) kc_X3_ofText gX9_note_X3_ofText rfl rfl rfl ⟨Nat.le_of_ble_eq_true rfl, Nat.le_of_ble_eq_true rfl⟩ kX_t hK hP hD hS hA [3, 4, 5, 6, 7] [0, 1, 2] rfl (by decide +kernel) rfl rfl rfl hl rfl (Nat.le_of_ble_eq_true rfl) dX9_note_21 ⟨Nat.le_of_ble_eq_true rfl, Nat.le_of_ble_eq_true rfl⟩ (fun r_3 H locs hB hJ hSn => ?_)
  obtain ⟨⟨hP1, hD1⟩, hf3_0, hf3_1⟩ := hB
  obtain ⟨hPn, hDn⟩ := hJ _ hP1 hD1 [(oR, .inr (9, [.ref oH, .ref oK, .ref n1, .ref n2, .ref n3, .ref r1, .ref r2, .ref r3, .ref r4, .ref r5, .ref r6, .int lR])), (r1, .inl (cI, 258, .inl fR1)), (r2, .inl (cI, 258, .inl fR2)), (oK, .inr (3, [.ref k1, .ref k2, .int lK])), (k1, .inl (cI, 1024, .inl fK1)), (k2, .inl (cI, 1024, .inl fK2)), (nx, .inr (5, [.ref ax, .int lx])), (ax, .inl (cI, 300, .inl fx))] rfl
  clear hP hD hS hJ hP1 hD1
  have hP := hPn
  have hD := hDn
  have hS := hSn
  clear hPn hDn hSn
  obtain ⟨f_4, ef_4⟩ : ∃ g : Nat → Int32, g = upd fR1 (pl : Int32).toNatClampNeg r_3 := ⟨_, rfl⟩
  refine va_iast hx hb hK hP hD hS 1 0 rfl rfl (v_inR g_pl (by decide) (by decide)) dX9_note_24 (kWf (g := f_4) (F := fun f_4 => [(oR, .inr (9, [.ref oH, .ref oK, .ref n1, .ref n2, .ref n3, .ref r1, .ref r2, .ref r3, .ref r4, .ref r5, .ref r6, .int lR])), (r1, .inl (cI, 258, .inl f_4)), (r2, .inl (cI, 258, .inl fR2)), (oK, .inr (3, [.ref k1, .ref k2, .int lK])), (k1, .inl (cI, 1024, .inl fK1)), (k2, .inl (cI, 1024, .inl fK2)), (nx, .inr (5, [.ref ax, .int lx])), (ax, .inl (cI, 300, .inl fx))]) ef_4 rfl (fun H locs hPn hDn hSn => ?_))
  clear hP hD hS
  have hP := hPn
  have hD := hDn
  have hS := hSn
  clear hPn hDn hSn
  refine lv_aload_n hx hb dX9_note_25 rfl (lv_at hl 0 rfl) ?_
  refine va_get (D := (dC, dI)) (ci := 9) (v := .ref r2) (C := RX9) (T := TX9) (N := 12) hx hb hts in_X9 hown hK hP 0 rfl rfl 6 (by decide) (hts (.fieldLink RX9 30 "TextMender$Rows" "foundLength" "[I") (List.mem_of_getElem? (i := 3) rfl)) (fun _ h9 => h9) rfl dX9_note_26 ?_
  refine lv_iload_n hx hb dX9_note_29 rfl (lv_at hl 1 rfl) ?_
  refine lv_aload_n hx hb dX9_note_30 rfl (lv_at hl 2 rfl) ?_
  refine kV_i (rest := [.int pl, .ref r2]) (q0 := 0) (ci := 5) hcf (m_X5_length l dC dI cI cS H.size nx ax lx ) kc_X5_length gX9_note_X5_length rfl rfl rfl ⟨Nat.le_of_ble_eq_true rfl, Nat.le_of_ble_eq_true rfl⟩ kX_t hK hP hD hS hA [6] [0, 1, 2, 3, 4, 5, 7] rfl (by decide +kernel) rfl rfl rfl hl rfl (Nat.le_of_ble_eq_true rfl) dX9_note_31 ⟨Nat.le_of_ble_eq_true rfl, Nat.le_of_ble_eq_true rfl⟩ (fun r_5 H locs hB hJ hSn => ?_)
  obtain ⟨⟨hP1, hD1⟩, hf5_0⟩ := hB
  obtain ⟨hPn, hDn⟩ := hJ _ hP1 hD1 [(oR, .inr (9, [.ref oH, .ref oK, .ref n1, .ref n2, .ref n3, .ref r1, .ref r2, .ref r3, .ref r4, .ref r5, .ref r6, .int lR])), (r1, .inl (cI, 258, .inl f_4)), (r2, .inl (cI, 258, .inl fR2)), (oK, .inr (3, [.ref k1, .ref k2, .int lK])), (k1, .inl (cI, 1024, .inl fK1)), (k2, .inl (cI, 1024, .inl fK2)), (ax, .inl (cI, 300, .inl fx)), (nx, .inr (5, [.ref ax, .int lx]))] rfl
  clear hP hD hS hJ hP1 hD1
  have hP := hPn
  have hD := hDn
  have hS := hSn
  clear hPn hDn hSn
  rw [hf5_0]
  obtain ⟨f_6, ef_6⟩ : ∃ g : Nat → Int32, g = upd fR2 (pl : Int32).toNatClampNeg lx := ⟨_, rfl⟩
  refine va_iast hx hb hK hP hD hS 2 0 rfl rfl (v_inR g_pl (by decide) (by decide)) dX9_note_34 (kWf (g := f_6) (F := fun f_6 => [(oR, .inr (9, [.ref oH, .ref oK, .ref n1, .ref n2, .ref n3, .ref r1, .ref r2, .ref r3, .ref r4, .ref r5, .ref r6, .int lR])), (r1, .inl (cI, 258, .inl f_4)), (r2, .inl (cI, 258, .inl f_6)), (oK, .inr (3, [.ref k1, .ref k2, .int lK])), (k1, .inl (cI, 1024, .inl fK1)), (k2, .inl (cI, 1024, .inl fK2)), (ax, .inl (cI, 300, .inl fx)), (nx, .inr (5, [.ref ax, .int lx]))]) ef_6 rfl (fun H locs hPn hDn hSn => ?_))
  clear hP hD hS
  have hP := hPn
  have hD := hDn
  have hS := hSn
  clear hPn hDn hSn
  exact kl_v hQQ hx hb hr hlocks hS dX9_note_35 ⟨f_4, f_6, kPD_sub hP hD [0, 1, 2, 3, 4, 5, 7, 6] (by decide +kernel) rfl, ⟨r_3, ef_4, hf3_1, by omega, ef_6⟩⟩

end
