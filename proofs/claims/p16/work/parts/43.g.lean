/-! 72.a.rows -/
section
set_option maxRecDepth 100000 in
theorem dA429_cL_law : kDec cL_law [(23, .iload 4, 2), (25, .aload_n 0, 1), (26, .arraylength, 1), (27, .bipush 6, 2), (29, .isub, 1), (30, .if_icmp .gt 998, 3), (1028, .iconst 1, 1), (1029, .ireturn, 1), (1022, .iinc 4 6, 3), (1025, .goto (-1002), 3), (33, .aload_n 0, 1), (34, .iload 4, 2), (36, .iaload, 1), (37, .bipush 31, 2), (39, .iand, 1), (40, .tableswitch 982 0 26 #[124, 197, 222, 235, 260, 333, 358, 383, 411, 436, 473, 486, 523, 560, 597, 634, 647, 684, 697, 722, 759, 808, 821, 858, 883, 920, 957], 124)] = true := by decide +kernel
theorem dL_law_23 : decode cL_law 23 = .ok (.iload 4, 2) := kDec_at dA429_cL_law 0 rfl
theorem dL_law_25 : decode cL_law 25 = .ok (.aload_n 0, 1) := kDec_at dA429_cL_law 1 rfl
theorem dL_law_26 : decode cL_law 26 = .ok (.arraylength, 1) := kDec_at dA429_cL_law 2 rfl
theorem dL_law_27 : decode cL_law 27 = .ok (.bipush 6, 2) := kDec_at dA429_cL_law 3 rfl
theorem dL_law_29 : decode cL_law 29 = .ok (.isub, 1) := kDec_at dA429_cL_law 4 rfl
theorem dL_law_30 : decode cL_law 30 = .ok (.if_icmp .gt 998, 3) := kDec_at dA429_cL_law 5 rfl
theorem dL_law_1028 : decode cL_law 1028 = .ok (.iconst 1, 1) := kDec_at dA429_cL_law 6 rfl
theorem dL_law_1029 : decode cL_law 1029 = .ok (.ireturn, 1) := kDec_at dA429_cL_law 7 rfl
theorem dL_law_1022 : decode cL_law 1022 = .ok (.iinc 4 6, 3) := kDec_at dA429_cL_law 8 rfl
theorem dL_law_1025 : decode cL_law 1025 = .ok (.goto (-1002), 3) := kDec_at dA429_cL_law 9 rfl
theorem dL_law_33 : decode cL_law 33 = .ok (.aload_n 0, 1) := kDec_at dA429_cL_law 10 rfl
theorem dL_law_34 : decode cL_law 34 = .ok (.iload 4, 2) := kDec_at dA429_cL_law 11 rfl
theorem dL_law_36 : decode cL_law 36 = .ok (.iaload, 1) := kDec_at dA429_cL_law 12 rfl
theorem dL_law_37 : decode cL_law 37 = .ok (.bipush 31, 2) := kDec_at dA429_cL_law 13 rfl
theorem dL_law_39 : decode cL_law 39 = .ok (.iand, 1) := kDec_at dA429_cL_law 14 rfl
theorem dL_law_40 : decode cL_law 40 = .ok (.tableswitch 982 0 26 #[124, 197, 222, 235, 260, 333, 358, 383, 411, 436, 473, 486, 523, 560, 597, 634, 647, 684, 697, 722, 759, 808, 821, 858, 883, 920, 957], 124) := kDec_at dA429_cL_law 15 rfl

end

/-! 72.loop -/
section
theorem INV_up {nc : Nat} {lT : Int32} {lL : Int32} {lM : Int32} {l4 : Int32} {l5 : Int32} {lB : Int32} {lH : Int32} {lK : Int32} {gn : Int32} {lG : Int32} {lR : Int32} {l1 : Int32} {l2 : Int32} {l3 : Int32} {lq : Int32} {lp : Int32} {lv : Int32} {ke : Int32} {fsh : Int32} {wi : Int32} {ri : Int32} {fm : Int32} {lm : Int32} {lw : Int32} {zt : Int32} {zp : Int32} {zf : Int32} {zh : Int32} {zr : Int32} {zc : Int32} {zy : Int32} {za : Int32} {zb : Int32} {zs : Int32} {zq : Int32} {zn : Int32} {zm : Int32} {zk : Int32} {fT : Nat → Int32} {fL : Nat → Int32} {f41 : Nat → Int32} {f42 : Nat → Int32} {f43 : Nat → Int32} {f51 : Nat → Int32} {f52 : Nat → Int32} {f53 : Nat → Int32} {fH1 : Nat → Int32} {fH2 : Nat → Int32} {fK1 : Nat → Int32} {fK2 : Nat → Int32} {fG1 : Nat → Int32} {fG2 : Nat → Int32} {fW4 : Nat → Int32} {fW5 : Nat → Int32} {fW6 : Nat → Int32} {fW7 : Nat → Int32} {eT : Nat → Int32} {eS : Nat → Int32} {eX : Nat → Int32} {eL : Nat → Int32} {eB : Nat → Int32} {eD : Nat → Int32} {e1 : Nat → Int32} {e2 : Nat → Int32} {ec1 : Nat → Int32} {ec2 : Nat → Int32} {ec3 : Nat → Int32} {eH : Nat → Int32} {eY : Nat → Int32} {eE : Nat → Int32} {eW : Nat → Int32} {eO : Nat → Int32} {eZ : Nat → Int32} (h : INV nc lT lL lM l4 l5 lB lH lK gn lG lR l1 l2 l3 lq lp lv ke fsh wi ri fm lm lw zt zp zf zh zr zc zy za zb zs zq zn zm zk fT fL f41 f42 f43 f51 f52 f53 fH1 fH2 fK1 fK2 fG1 fG2 fW4 fW5 fW6 fW7 eT eS eX eL eB eD e1 e2 ec1 ec2 ec3 eH eY eE eW eO eZ) : INV (nc + 1) lT lL lM l4 l5 lB lH lK gn lG lR l1 l2 l3 lq lp lv ke fsh wi ri fm lm lw zt zp zf zh zr zc zy za zb zs zq zn zm zk fT fL f41 f42 f43 f51 f52 f53 fH1 fH2 fK1 fK2 fG1 fG2 fW4 fW5 fW6 fW7 eT eS eX eL eB eD e1 e2 ec1 ec2 ec3 eH eY eE eW eO eZ := by
  refine And.elim (fun g_lT hBI_0 => ?_) h
  refine And.elim (fun g_lL hBI_1 => ?_) hBI_0
  refine And.elim (fun g_lM hBI_2 => ?_) hBI_1
  refine And.elim (fun g_lB hBI_3 => ?_) hBI_2
  refine And.elim (fun g_lH hBI_4 => ?_) hBI_3
  refine And.elim (fun g_lK hBI_5 => ?_) hBI_4
  refine And.elim (fun g_gn hBI_6 => ?_) hBI_5
  refine And.elim (fun g_lG hBI_7 => ?_) hBI_6
  refine And.elim (fun g_lR hBI_8 => ?_) hBI_7
  refine And.elim (fun g_l1 hBI_9 => ?_) hBI_8
  refine And.elim (fun g_l2 hBI_10 => ?_) hBI_9
  refine And.elim (fun g_l3 hBI_11 => ?_) hBI_10
  refine And.elim (fun g_lq hBI_12 => ?_) hBI_11
  refine And.elim (fun g_lp hBI_13 => ?_) hBI_12
  refine And.elim (fun g_lv hBI_14 => ?_) hBI_13
  refine And.elim (fun g_ke hBI_15 => ?_) hBI_14
  refine And.elim (fun g_fsh hBI_16 => ?_) hBI_15
  refine And.elim (fun g_fm hBI_17 => ?_) hBI_16
  refine And.elim (fun g_lm hBI_18 => ?_) hBI_17
  refine And.elim (fun g_lw hBI_19 => ?_) hBI_18
  refine And.elim (fun g_zt hBI_20 => ?_) hBI_19
  refine And.elim (fun g_zp hBI_21 => ?_) hBI_20
  refine And.elim (fun g_zf hBI_22 => ?_) hBI_21
  refine And.elim (fun g_zh hBI_23 => ?_) hBI_22
  refine And.elim (fun g_zr hBI_24 => ?_) hBI_23
  refine And.elim (fun g_zc hBI_25 => ?_) hBI_24
  refine And.elim (fun g_zy hBI_26 => ?_) hBI_25
  refine And.elim (fun g_za hBI_27 => ?_) hBI_26
  refine And.elim (fun g_zb hBI_28 => ?_) hBI_27
  refine And.elim (fun g_zs hBI_29 => ?_) hBI_28
  refine And.elim (fun g_zq hBI_30 => ?_) hBI_29
  refine And.elim (fun g_zn hBI_31 => ?_) hBI_30
  refine And.elim (fun g_zm hBI_32 => ?_) hBI_31
  refine And.elim (fun g_zk hBI_33 => ?_) hBI_32
  refine And.elim (fun g_fG2 hBI_34 => ?_) hBI_33
  refine And.elim (fun g_eS hBI_35 => ?_) hBI_34
  refine And.elim (fun g_eX hBI_36 => ?_) hBI_35
  refine And.elim (fun g_eL hBI_37 => ?_) hBI_36
  refine And.elim (fun g_eB hBI_38 => ?_) hBI_37
  refine And.elim (fun g_e1 hBI_39 => ?_) hBI_38
  refine And.elim (fun g_e2 hBI_40 => ?_) hBI_39
  refine And.elim (fun g_eY hBI_41 => ?_) hBI_40
  refine And.elim (fun g_eE hBI_42 => ?_) hBI_41
  refine And.elim (fun g_eW hBI_43 => ?_) hBI_42
  refine And.elim (fun g_eO hBI_44 => ?_) hBI_43
  refine And.elim (fun g_eZ hBI_45 => ?_) hBI_44
  refine And.elim (fun hzn hBI_46 => ?_) hBI_45
  refine And.elim (fun hrel hBI_47 => ?_) hBI_46
  refine And.elim (fun hrc hBI_48 => ?_) hBI_47
  refine And.elim (fun hr4 hBI_49 => ?_) hBI_48
  refine And.elim (fun hr5 hBI_50 => ?_) hBI_49
  refine And.elim (fun hb4 hBI_51 => ?_) hBI_50
  refine And.elim (fun hb5 hBI_52 => ?_) hBI_51
  refine And.elim (fun hlz hBI_53 => ?_) hBI_52
  refine And.elim (fun hH hBI_54 => ?_) hBI_53
  refine And.elim (fun hHe hBI_55 => ?_) hBI_54
  refine And.elim (fun hKz hBI_56 => ?_) hBI_55
  refine And.elim (fun hT hBI_57 => ?_) hBI_56
  refine And.elim (fun ho hBI_58 => ?_) hBI_57
  refine And.elim (fun hal hBI_59 => ?_) hBI_58
  refine And.elim (fun hCV hBI_60 => ?_) hBI_59
  refine And.elim (fun hVk hBI_61 => ?_) hBI_60
  refine And.elim (fun hVr hBI_62 => ?_) hBI_61
  refine And.elim (fun hTX hBI_63 => ?_) hBI_62
  refine And.elim (fun hCH hBI_64 => ?_) hBI_63
  refine And.elim (fun hvc hBI_65 => ?_) hBI_64
  refine And.elim (fun hfr hBI_66 => ?_) hBI_65
  refine And.elim (fun hfx hBI_67 => ?_) hBI_66
  have hfs := hBI_67
  clear h hBI_0 hBI_1 hBI_2 hBI_3 hBI_4 hBI_5 hBI_6 hBI_7 hBI_8 hBI_9 hBI_10 hBI_11 hBI_12 hBI_13 hBI_14 hBI_15 hBI_16 hBI_17 hBI_18 hBI_19 hBI_20 hBI_21 hBI_22 hBI_23 hBI_24 hBI_25 hBI_26 hBI_27 hBI_28 hBI_29 hBI_30 hBI_31 hBI_32 hBI_33 hBI_34 hBI_35 hBI_36 hBI_37 hBI_38 hBI_39 hBI_40 hBI_41 hBI_42 hBI_43 hBI_44 hBI_45 hBI_46 hBI_47 hBI_48 hBI_49 hBI_50 hBI_51 hBI_52 hBI_53 hBI_54 hBI_55 hBI_56 hBI_57 hBI_58 hBI_59 hBI_60 hBI_61 hBI_62 hBI_63 hBI_64 hBI_65 hBI_66 hBI_67
  exact ⟨g_lT, g_lL, g_lM, g_lB, g_lH, g_lK, g_gn, g_lG, g_lR, g_l1, g_l2, g_l3, g_lq, g_lp, g_lv, g_ke, g_fsh, g_fm, g_lm, g_lw, g_zt, g_zp, g_zf, g_zh, g_zr, g_zc, g_zy, g_za, g_zb, g_zs, g_zq, g_zn, g_zm, g_zk, g_fG2, g_eS, g_eX, g_eL, g_eB, g_e1, g_e2, g_eY, g_eE, g_eW, g_eO, g_eZ, by omega, hrel, hrc, hr4, hr5, hb4, hb5, hlz, hH, hHe, hKz, hT, ho, hal, hCV, hVk, hVr, hTX, hCH, hvc, hfr, hfx, hfs⟩
set_option maxHeartbeats 40000000 in
set_option maxRecDepth 100000 in
/-- the law's loop -/
theorem law_loop {p : Program} {l : Launch} {e : Env} {s : State} {m : MethodId} {below : List Frame} {meth : Method} {c : Code} {dC : Nat → ClassId} {dI : Nat → Nat → Nat} {cI cS cJ : ClassId} {A : Nat → Prop} {b L : Nat} {xs : Nat → Int32} (C0 : lw_At p s m meth c b L xs) (hAd : A = fun q : Nat => s.heap.size ≤ q) (hst : l.stackTraces = false) {sa : Nat} (hcast : p_Dw s) (hstr : vk_R RX11 162 "no such letter" sa s) (hU : vx_Zq Bundle.tN "UNASSIGNED_STACK" Bundle.steD A s s.heap) (hN : vx_Zq Bundle.tN "SUPPRESSED_SENTINEL" Bundle.listD A s s.heap) (hK3 : va_K (dC, dI) vwCl [(cI, .int), (cS, .short), (cJ, .long)] s) (hL : L ≤ 3072) {oX nT aT nL aL nM aM oC o4 a41 a42 a43 o5 a51 a52 a53 oP nB aB oH h1 h2 oK k1 k2 oG g1 g2 oR n1 a1 n2 a2 n3 a3 r1 r2 r3 r4 r5 r6 oQ oE nq aq np ap nv av q1 q2 q3 q4 oW nw aw o7 o8 o9 w1 w2 w3 w4 w5 w6 w7 oM mT mS mX mL mB mD m1 m2 mR x1 x2 x3 mH mY mE mW mO y1 y2 y3 y4 mZ oJ : Nat} : ∀ (k : Nat) (fa : Int32) (lT : Int32) (lL : Int32) (lM : Int32) (l4 : Int32) (l5 : Int32) (ft : Int32) (lB : Int32) (lH : Int32) (lK : Int32) (gn : Int32) (lG : Int32) (lR : Int32) (l1 : Int32) (l2 : Int32) (l3 : Int32) (pr : Int32) (reE : Int32) (laE : Int32) (suE : Int32) (leE : Int32) (lq : Int32) (lp : Int32) (lv : Int32) (ke : Int32) (tl : Int32) (fsh : Int32) (wi : Int32) (ri : Int32) (fm : Int32) (lm : Int32) (lw : Int32) (re7 : Int32) (la7 : Int32) (su7 : Int32) (le7 : Int32) (re8 : Int32) (la8 : Int32) (su8 : Int32) (le8 : Int32) (re9 : Int32) (la9 : Int32) (su9 : Int32) (le9 : Int32) (zt : Int32) (zp : Int32) (zf : Int32) (zh : Int32) (zr : Int32) (zc : Int32) (zy : Int32) (za : Int32) (zb : Int32) (zs : Int32) (zq : Int32) (zw : Int32) (ze : Int32) (zn : Int32) (zm : Int32) (zl : Int32) (zk : Int32) (zd : Int32) (fT : Nat → Int32) (fL : Nat → Int32) (fM : Nat → Int32) (f41 : Nat → Int32) (f42 : Nat → Int32) (f43 : Nat → Int32) (f51 : Nat → Int32) (f52 : Nat → Int32) (f53 : Nat → Int32) (fB : Nat → Int32) (fH1 : Nat → Int32) (fH2 : Nat → Int32) (fK1 : Nat → Int32) (fK2 : Nat → Int32) (fG1 : Nat → Int32) (fG2 : Nat → Int32) (f1 : Nat → Int32) (f2 : Nat → Int32) (f3 : Nat → Int32) (fR1 : Nat → Int32) (fR2 : Nat → Int32) (fR3 : Nat → Int32) (fR4 : Nat → Int32) (fR5 : Nat → Int32) (fR6 : Nat → Int32) (fq : Nat → Int32) (fp : Nat → Int32) (fv : Nat → Int32) (fQ1 : Nat → Int32) (fQ2 : Nat → Int32) (fQ3 : Nat → Int32) (fQ4 : Nat → Int32) (fw : Nat → Int32) (fW1 : Nat → Int32) (fW2 : Nat → Int32) (fW3 : Nat → Int32) (fW4 : Nat → Int32) (fW5 : Nat → Int32) (fW6 : Nat → Int32) (fW7 : Nat → Int32) (eT : Nat → Int32) (eS : Nat → Int32) (eX : Nat → Int32) (eL : Nat → Int32) (eB : Nat → Int32) (eD : Nat → Int32) (e1 : Nat → Int32) (e2 : Nat → Int32) (eR : Nat → Int32) (ec1 : Nat → Int32) (ec2 : Nat → Int32) (ec3 : Nat → Int32) (eH : Nat → Int32) (eY : Nat → Int32) (eE : Nat → Int32) (eW : Nat → Int32) (eO : Nat → Int32) (er1 : Nat → Int32) (er2 : Nat → Int32) (er3 : Nat → Int32) (er4 : Nat → Int32) (eZ : Nat → Int32) (fJ : Nat → Int64) (H : Heap) (locs : List Loc) (ls : Array Slot) (i : Int32) (nc : Nat), ((L : Int) + 6 - i.toInt).toNat < k → i.toInt = 6 * (nc : Int) → i.toInt ≤ (L : Int) → INV nc lT lL lM l4 l5 lB lH lK gn lG lR l1 l2 l3 lq lp lv ke fsh wi ri fm lm lw zt zp zf zh zr zc zy za zb zs zq zn zm zk fT fL f41 f42 f43 f51 f52 f53 fH1 fH2 fK1 fK2 fG1 fG2 fW4 fW5 fW6 fW7 eT eS eX eL eB eD e1 e2 ec1 ec2 ec3 eH eY eE eW eO eZ → va_P (dC, dI) vwCl (WLD cI cS cJ oX nT aT nL aL nM aM oC o4 a41 a42 a43 o5 a51 a52 a53 oP nB aB oH h1 h2 oK k1 k2 oG g1 g2 oR n1 a1 n2 a2 n3 a3 r1 r2 r3 r4 r5 r6 oQ oE nq aq np ap nv av q1 q2 q3 q4 oW nw aw o7 o8 o9 w1 w2 w3 w4 w5 w6 w7 oM mT mS mX mL mB mD m1 m2 mR x1 x2 x3 mH mY mE mW mO y1 y2 y3 y4 mZ oJ fa lT lL lM l4 l5 ft lB lH lK gn lG lR l1 l2 l3 pr reE laE suE leE lq lp lv ke tl fsh wi ri fm lm lw re7 la7 su7 le7 re8 la8 su8 le8 re9 la9 su9 le9 zt zp zf zh zr zc zy za zb zs zq zw ze zn zm zl zk zd fT fL fM f41 f42 f43 f51 f52 f53 fB fH1 fH2 fK1 fK2 fG1 fG2 f1 f2 f3 fR1 fR2 fR3 fR4 fR5 fR6 fq fp fv fQ1 fQ2 fQ3 fQ4 fw fW1 fW2 fW3 fW4 fW5 fW6 fW7 eT eS eX eL eB eD e1 e2 eR ec1 ec2 ec3 eH eY eE eW eO er1 er2 er3 er4 eZ fJ) H → va_D A (WLD cI cS cJ oX nT aT nL aL nM aM oC o4 a41 a42 a43 o5 a51 a52 a53 oP nB aB oH h1 h2 oK k1 k2 oG g1 g2 oR n1 a1 n2 a2 n3 a3 r1 r2 r3 r4 r5 r6 oQ oE nq aq np ap nv av q1 q2 q3 q4 oW nw aw o7 o8 o9 w1 w2 w3 w4 w5 w6 w7 oM mT mS mX mL mB mD m1 m2 mR x1 x2 x3 mH mY mE mW mO y1 y2 y3 y4 mZ oJ fa lT lL lM l4 l5 ft lB lH lK gn lG lR l1 l2 l3 pr reE laE suE leE lq lp lv ke tl fsh wi ri fm lm lw re7 la7 su7 le7 re8 la8 su8 le8 re9 la9 su9 le9 zt zp zf zh zr zc zy za zb zs zq zw ze zn zm zl zk zd fT fL fM f41 f42 f43 f51 f52 f53 fB fH1 fH2 fK1 fK2 fG1 fG2 f1 f2 f3 fR1 fR2 fR3 fR4 fR5 fR6 fq fp fv fQ1 fQ2 fQ3 fQ4 fw fW1 fW2 fW3 fW4 fW5 fW6 fW7 eT eS eX eL eB eD e1 e2 eR ec1 ec2 ec3 eH eY eE eW eO er1 er2 er3 er4 eZ fJ) → va_S A s.heap H locs → lv_has ls 7 [(0, .ref b), (1, .ref oX), (2, .ref oM), (3, .ref oJ), (4, .int i)] → W p l e room_1 s m #[Value.ref b] below meth c H locs (90 + nc) (172225 + 6 * nc) (lw_Z below #[Value.ref b] s) (F0 m 23 ls []) := by
  obtain ⟨hx, hb, hr, hml, hown, hts0, hX, hbl, hlocks, hgv⟩ := id C0
  have hbA : ¬ A b := by rw [hAd]; exact Nat.not_le.mpr hbl
  intro k
  induction k with
  | zero =>
    intro fa lT lL lM l4 l5 ft lB lH lK gn lG lR l1 l2 l3 pr reE laE suE leE lq lp lv ke tl fsh wi ri fm lm lw re7 la7 su7 le7 re8 la8 su8 le8 re9 la9 su9 le9 zt zp zf zh zr zc zy za zb zs zq zw ze zn zm zl zk zd fT fL fM f41 f42 f43 f51 f52 f53 fB fH1 fH2 fK1 fK2 fG1 fG2 f1 f2 f3 fR1 fR2 fR3 fR4 fR5 fR6 fq fp fv fQ1 fQ2 fQ3 fQ4 fw fW1 fW2 fW3 fW4 fW5 fW6 fW7 eT eS eX eL eB eD e1 e2 eR ec1 ec2 ec3 eH eY eE eW eO er1 er2 er3 er4 eZ fJ H locs ls i nc hm
    exact absurd hm (Nat.not_lt_zero _)
  | succ k ih =>
    intro fa lT lL lM l4 l5 ft lB lH lK gn lG lR l1 l2 l3 pr reE laE suE leE lq lp lv ke tl fsh wi ri fm lm lw re7 la7 su7 le7 re8 la8 su8 le8 re9 la9 su9 le9 zt zp zf zh zr zc zy za zb zs zq zw ze zn zm zl zk zd fT fL fM f41 f42 f43 f51 f52 f53 fB fH1 fH2 fK1 fK2 fG1 fG2 f1 f2 f3 fR1 fR2 fR3 fR4 fR5 fR6 fq fp fv fQ1 fQ2 fQ3 fQ4 fw fW1 fW2 fW3 fW4 fW5 fW6 fW7 eT eS eX eL eB eD e1 e2 eR ec1 ec2 ec3 eH eY eE eW eO er1 er2 er3 er4 eZ fJ H locs ls i nc hm hi6 hiL hI hP hD hS hl
    refine lv_iload hx hb dL_law_23 (lv_at hl 4 rfl) ?_
    refine lv_aload_n hx hb dL_law_25 rfl (lv_at hl 0 rfl) ?_
    refine va_slen hx hb hX hbl hbA hS dL_law_26 ?_
    refine lv_topi (fun x_0 ex_0 => ?_)
    have tx_0 : x_0.toInt = (L : Int) := by rw [ex_0]; exact v_nat (by omega)
    refine lv_bipush (v := 6) hx hb dL_law_27 (by decide) ?_
    refine lv_isub hx hb dL_law_29 ?_
    refine lv_topi (fun x_1 ex_1 => ?_)
    have tx_1 : x_1.toInt = x_0.toInt - 6 := v_sub ex_1 (by show -2147483648 ≤ x_0.toInt - 6; omega) (by show x_0.toInt - 6 < 2147483648; omega)
    refine lv_icmp_gt (tgt := 1028) hx hb dL_law_30 (by decide) (fun c_0 => ?_) (fun c_0 => ?_)
    · refine lv_iconst (v := 1) hx hb dL_law_1028 (by decide) ?_
      have hnc : nc ≤ 512 := by omega
      refine va_forget (fun q hq => by have h9 := hS.2.2 q hq; rw [hAd] at h9; exact h9) ?_
      refine W.widen (k := 601024) (n := 7293034) (by omega) (by omega) ?_
      exact lw_ret hx hb hr hlocks dL_law_1029
    · have tc_0 : i.toInt ≤ x_1.toInt := v_nlt c_0
      have hn : nc ≤ 511 := by omega
      have kk : KK p l e s m below meth c dC dI cI cS cJ A b oX nT aT nL aL nM aM oC o4 a41 a42 a43 o5 a51 a52 a53 oP nB aB oH h1 h2 oK k1 k2 oG g1 g2 oR n1 a1 n2 a2 n3 a3 r1 r2 r3 r4 r5 r6 oQ oE nq aq np ap nv av q1 q2 q3 q4 oW nw aw o7 o8 o9 w1 w2 w3 w4 w5 w6 w7 oM mT mS mX mL mB mD m1 m2 mR x1 x2 x3 mH mY mE mW mO y1 y2 y3 y4 mZ oJ i nc := by
        intro fa lT lL lM l4 l5 ft lB lH lK gn lG lR l1 l2 l3 pr reE laE suE leE lq lp lv ke tl fsh wi ri fm lm lw re7 la7 su7 le7 re8 la8 su8 le8 re9 la9 su9 le9 zt zp zf zh zr zc zy za zb zs zq zw ze zn zm zl zk zd fT fL fM f41 f42 f43 f51 f52 f53 fB fH1 fH2 fK1 fK2 fG1 fG2 f1 f2 f3 fR1 fR2 fR3 fR4 fR5 fR6 fq fp fv fQ1 fQ2 fQ3 fQ4 fw fW1 fW2 fW3 fW4 fW5 fW6 fW7 eT eS eX eL eB eD e1 e2 eR ec1 ec2 ec3 eH eY eE eW eO er1 er2 er3 er4 eZ fJ H locs ls hI hP hD hS hl
        obtain ⟨x_9, ex_9⟩ : ∃ y : Int32, y = i + 6 := ⟨_, rfl⟩
        have tx_9 : x_9.toInt = i.toInt + 6 := v_add ex_9 (by show -2147483648 ≤ i.toInt + 6; omega) (by show i.toInt + 6 < 2147483648; omega)
        refine lv_iinc (v := x_9) (lv' := [(4, .int x_9), (0, .ref b), (1, .ref oX), (2, .ref oM), (3, .ref oJ)]) hx hb dL_law_1022 hl (k := 4) rfl (by rw [ex_9]; rfl) (by decide) rfl (fun ls hl => ?_)
        refine lv_goto (tgt := 23) hx hb dL_law_1025 (by decide) ?_
        exact ih fa lT lL lM l4 l5 ft lB lH lK gn lG lR l1 l2 l3 pr reE laE suE leE lq lp lv ke tl fsh wi ri fm lm lw re7 la7 su7 le7 re8 la8 su8 le8 re9 la9 su9 le9 zt zp zf zh zr zc zy za zb zs zq zw ze zn zm zl zk zd fT fL fM f41 f42 f43 f51 f52 f53 fB fH1 fH2 fK1 fK2 fG1 fG2 f1 f2 f3 fR1 fR2 fR3 fR4 fR5 fR6 fq fp fv fQ1 fQ2 fQ3 fQ4 fw fW1 fW2 fW3 fW4 fW5 fW6 fW7 eT eS eX eL eB eD e1 e2 eR ec1 ec2 ec3 eH eY eE eW eO er1 er2 er3 er4 eZ fJ H locs ls x_9 (nc + 1) (by omega) (by omega) (by omega) hI hP hD hS (lv_sub hl [1, 2, 3, 4, 0] rfl)
      refine lv_aload_n hx hb dL_law_33 rfl (lv_at hl 0 rfl) ?_
      refine lv_iload hx hb dL_law_34 (lv_at hl 4 rfl) ?_
      refine va_sld hx hb hX hbl hbA hS (v_in (by omega)) dL_law_36 ?_
      refine lv_topi (fun x_3 ex_3 => ?_)
      refine lv_bipush (v := 31) hx hb dL_law_37 (by decide) ?_
      refine lv_iand hx hb dL_law_39 ?_
      refine lv_topi (fun x_2 ex_2 => ?_)
      have tx_2 : 0 ≤ x_2.toInt ∧ x_2.toInt < 32 := v_and 5 ex_2 (by decide) (by decide)
      refine And.elim (fun g_lT hBI_0 => ?_) hI
      refine And.elim (fun g_lL hBI_1 => ?_) hBI_0
      refine And.elim (fun g_lM hBI_2 => ?_) hBI_1
      refine And.elim (fun g_lB hBI_3 => ?_) hBI_2
      refine And.elim (fun g_lH hBI_4 => ?_) hBI_3
      refine And.elim (fun g_lK hBI_5 => ?_) hBI_4
      refine And.elim (fun g_gn hBI_6 => ?_) hBI_5
      refine And.elim (fun g_lG hBI_7 => ?_) hBI_6
      refine And.elim (fun g_lR hBI_8 => ?_) hBI_7
      refine And.elim (fun g_l1 hBI_9 => ?_) hBI_8
      refine And.elim (fun g_l2 hBI_10 => ?_) hBI_9
      refine And.elim (fun g_l3 hBI_11 => ?_) hBI_10
      refine And.elim (fun g_lq hBI_12 => ?_) hBI_11
      refine And.elim (fun g_lp hBI_13 => ?_) hBI_12
      refine And.elim (fun g_lv hBI_14 => ?_) hBI_13
      refine And.elim (fun g_ke hBI_15 => ?_) hBI_14
      refine And.elim (fun g_fsh hBI_16 => ?_) hBI_15
      refine And.elim (fun g_fm hBI_17 => ?_) hBI_16
      refine And.elim (fun g_lm hBI_18 => ?_) hBI_17
      refine And.elim (fun g_lw hBI_19 => ?_) hBI_18
      refine And.elim (fun g_zt hBI_20 => ?_) hBI_19
      refine And.elim (fun g_zp hBI_21 => ?_) hBI_20
      refine And.elim (fun g_zf hBI_22 => ?_) hBI_21
      refine And.elim (fun g_zh hBI_23 => ?_) hBI_22
      refine And.elim (fun g_zr hBI_24 => ?_) hBI_23
      refine And.elim (fun g_zc hBI_25 => ?_) hBI_24
      refine And.elim (fun g_zy hBI_26 => ?_) hBI_25
      refine And.elim (fun g_za hBI_27 => ?_) hBI_26
      refine And.elim (fun g_zb hBI_28 => ?_) hBI_27
      refine And.elim (fun g_zs hBI_29 => ?_) hBI_28
      refine And.elim (fun g_zq hBI_30 => ?_) hBI_29
      refine And.elim (fun g_zn hBI_31 => ?_) hBI_30
      refine And.elim (fun g_zm hBI_32 => ?_) hBI_31
      refine And.elim (fun g_zk hBI_33 => ?_) hBI_32
      refine And.elim (fun g_fG2 hBI_34 => ?_) hBI_33
      refine And.elim (fun g_eS hBI_35 => ?_) hBI_34
      refine And.elim (fun g_eX hBI_36 => ?_) hBI_35
      refine And.elim (fun g_eL hBI_37 => ?_) hBI_36
      refine And.elim (fun g_eB hBI_38 => ?_) hBI_37
      refine And.elim (fun g_e1 hBI_39 => ?_) hBI_38
      refine And.elim (fun g_e2 hBI_40 => ?_) hBI_39
      refine And.elim (fun g_eY hBI_41 => ?_) hBI_40
      refine And.elim (fun g_eE hBI_42 => ?_) hBI_41
      refine And.elim (fun g_eW hBI_43 => ?_) hBI_42
      refine And.elim (fun g_eO hBI_44 => ?_) hBI_43
      refine And.elim (fun g_eZ hBI_45 => ?_) hBI_44
      refine And.elim (fun hzn hBI_46 => ?_) hBI_45
      refine And.elim (fun hrel hBI_47 => ?_) hBI_46
      refine And.elim (fun hrc hBI_48 => ?_) hBI_47
      refine And.elim (fun hr4 hBI_49 => ?_) hBI_48
      refine And.elim (fun hr5 hBI_50 => ?_) hBI_49
      refine And.elim (fun hb4 hBI_51 => ?_) hBI_50
      refine And.elim (fun hb5 hBI_52 => ?_) hBI_51
      refine And.elim (fun hlz hBI_53 => ?_) hBI_52
      refine And.elim (fun hH hBI_54 => ?_) hBI_53
      refine And.elim (fun hHe hBI_55 => ?_) hBI_54
      refine And.elim (fun hKz hBI_56 => ?_) hBI_55
      refine And.elim (fun hT hBI_57 => ?_) hBI_56
      refine And.elim (fun ho hBI_58 => ?_) hBI_57
      refine And.elim (fun hal hBI_59 => ?_) hBI_58
      refine And.elim (fun hCV hBI_60 => ?_) hBI_59
      refine And.elim (fun hVk hBI_61 => ?_) hBI_60
      refine And.elim (fun hVr hBI_62 => ?_) hBI_61
      refine And.elim (fun hTX hBI_63 => ?_) hBI_62
      refine And.elim (fun hCH hBI_64 => ?_) hBI_63
      refine And.elim (fun hvc hBI_65 => ?_) hBI_64
      refine And.elim (fun hfr hBI_66 => ?_) hBI_65
      refine And.elim (fun hfx hBI_67 => ?_) hBI_66
      have hfs := hBI_67
      clear hBI_0 hBI_1 hBI_2 hBI_3 hBI_4 hBI_5 hBI_6 hBI_7 hBI_8 hBI_9 hBI_10 hBI_11 hBI_12 hBI_13 hBI_14 hBI_15 hBI_16 hBI_17 hBI_18 hBI_19 hBI_20 hBI_21 hBI_22 hBI_23 hBI_24 hBI_25 hBI_26 hBI_27 hBI_28 hBI_29 hBI_30 hBI_31 hBI_32 hBI_33 hBI_34 hBI_35 hBI_36 hBI_37 hBI_38 hBI_39 hBI_40 hBI_41 hBI_42 hBI_43 hBI_44 hBI_45 hBI_46 hBI_47 hBI_48 hBI_49 hBI_50 hBI_51 hBI_52 hBI_53 hBI_54 hBI_55 hBI_56 hBI_57 hBI_58 hBI_59 hBI_60 hBI_61 hBI_62 hBI_63 hBI_64 hBI_65 hBI_66 hBI_67
      by_cases c_0 : x_2 = 0
      · refine lv_tableIn (tgt := 164) hx hb dL_law_40 (by rw [c_0]; decide) (by rw [c_0]; decide) (by rw [c_0]; rfl) (by decide) ?_
        exact law_feed C0 hAd hK3 hn (by omega) hL g_lT g_lL g_lM g_lB g_lH g_lK g_gn g_lG g_lR g_l1 g_l2 g_l3 g_lq g_lp g_lv g_ke g_fsh g_fm g_lm g_lw g_zt g_zp g_zf g_zh g_zr g_zc g_zy g_za g_zb g_zs g_zq g_zn g_zm g_zk g_fG2 g_eS g_eX g_eL g_eB g_e1 g_e2 g_eY g_eE g_eW g_eO g_eZ hzn hrel hrc hr4 hr5 hb4 hb5 hlz hH hHe hKz hT ho hal hCV hVk hVr hTX hCH hvc hfr hfx hfs hP hD hS hl kk
      · skip
        by_cases c_1 : x_2 = 1
        · refine lv_tableIn (tgt := 237) hx hb dL_law_40 (by rw [c_1]; decide) (by rw [c_1]; decide) (by rw [c_1]; rfl) (by decide) ?_
          exact law_end C0 hAd hK3 hn (by omega) hL g_lT g_lL g_lM g_lB g_lH g_lK g_gn g_lG g_lR g_l1 g_l2 g_l3 g_lq g_lp g_lv g_ke g_fsh g_fm g_lm g_lw g_zt g_zp g_zf g_zh g_zr g_zc g_zy g_za g_zb g_zs g_zq g_zn g_zm g_zk g_fG2 g_eS g_eX g_eL g_eB g_e1 g_e2 g_eY g_eE g_eW g_eO g_eZ hzn hrel hrc hr4 hr5 hb4 hb5 hlz hH hHe hKz hT ho hal hCV hVk hVr hTX hCH hvc hfr hfx hfs hP hD hS hl kk
        · skip
          by_cases c_2 : x_2 = 2
          · refine lv_tableIn (tgt := 262) hx hb dL_law_40 (by rw [c_2]; decide) (by rw [c_2]; decide) (by rw [c_2]; rfl) (by decide) ?_
            exact law_text C0 hAd hK3 hn (by omega) hL g_lT g_lL g_lM g_lB g_lH g_lK g_gn g_lG g_lR g_l1 g_l2 g_l3 g_lq g_lp g_lv g_ke g_fsh g_fm g_lm g_lw g_zt g_zp g_zf g_zh g_zr g_zc g_zy g_za g_zb g_zs g_zq g_zn g_zm g_zk g_fG2 g_eS g_eX g_eL g_eB g_e1 g_e2 g_eY g_eE g_eW g_eO g_eZ hzn hrel hrc hr4 hr5 hb4 hb5 hlz hH hHe hKz hT ho hal hCV hVk hVr hTX hCH hvc hfr hfx hfs hP hD hS hl kk
          · skip
            by_cases c_3 : x_2 = 3
            · refine lv_tableIn (tgt := 275) hx hb dL_law_40 (by rw [c_3]; decide) (by rw [c_3]; decide) (by rw [c_3]; rfl) (by decide) ?_
              exact law_read C0 hAd hK3 hn (by omega) hL g_lT g_lL g_lM g_lB g_lH g_lK g_gn g_lG g_lR g_l1 g_l2 g_l3 g_lq g_lp g_lv g_ke g_fsh g_fm g_lm g_lw g_zt g_zp g_zf g_zh g_zr g_zc g_zy g_za g_zb g_zs g_zq g_zn g_zm g_zk g_fG2 g_eS g_eX g_eL g_eB g_e1 g_e2 g_eY g_eE g_eW g_eO g_eZ hzn hrel hrc hr4 hr5 hb4 hb5 hlz hH hHe hKz hT ho hal hCV hVk hVr hTX hCH hvc hfr hfx hfs hP hD hS hl kk
            · skip
              by_cases c_4 : x_2 = 4
              · refine lv_tableIn (tgt := 300) hx hb dL_law_40 (by rw [c_4]; decide) (by rw [c_4]; decide) (by rw [c_4]; rfl) (by decide) ?_
                exact law_span C0 hAd hK3 hn (by omega) hL g_lT g_lL g_lM g_lB g_lH g_lK g_gn g_lG g_lR g_l1 g_l2 g_l3 g_lq g_lp g_lv g_ke g_fsh g_fm g_lm g_lw g_zt g_zp g_zf g_zh g_zr g_zc g_zy g_za g_zb g_zs g_zq g_zn g_zm g_zk g_fG2 g_eS g_eX g_eL g_eB g_e1 g_e2 g_eY g_eE g_eW g_eO g_eZ hzn hrel hrc hr4 hr5 hb4 hb5 hlz hH hHe hKz hT ho hal hCV hVk hVr hTX hCH hvc hfr hfx hfs hP hD hS hl kk
              · skip
                by_cases c_5 : x_2 = 5
                · refine lv_tableIn (tgt := 373) hx hb dL_law_40 (by rw [c_5]; decide) (by rw [c_5]; decide) (by rw [c_5]; rfl) (by decide) ?_
                  exact law_blank C0 hAd hK3 hn (by omega) hL g_lT g_lL g_lM g_lB g_lH g_lK g_gn g_lG g_lR g_l1 g_l2 g_l3 g_lq g_lp g_lv g_ke g_fsh g_fm g_lm g_lw g_zt g_zp g_zf g_zh g_zr g_zc g_zy g_za g_zb g_zs g_zq g_zn g_zm g_zk g_fG2 g_eS g_eX g_eL g_eB g_e1 g_e2 g_eY g_eE g_eW g_eO g_eZ hzn hrel hrc hr4 hr5 hb4 hb5 hlz hH hHe hKz hT ho hal hCV hVk hVr hTX hCH hvc hfr hfx hfs hP hD hS hl kk
                · skip
                  by_cases c_6 : x_2 = 6
                  · refine lv_tableIn (tgt := 398) hx hb dL_law_40 (by rw [c_6]; decide) (by rw [c_6]; decide) (by rw [c_6]; rfl) (by decide) ?_
                    exact law_count C0 hAd hK3 hn (by omega) hL g_lT g_lL g_lM g_lB g_lH g_lK g_gn g_lG g_lR g_l1 g_l2 g_l3 g_lq g_lp g_lv g_ke g_fsh g_fm g_lm g_lw g_zt g_zp g_zf g_zh g_zr g_zc g_zy g_za g_zb g_zs g_zq g_zn g_zm g_zk g_fG2 g_eS g_eX g_eL g_eB g_e1 g_e2 g_eY g_eE g_eW g_eO g_eZ hzn hrel hrc hr4 hr5 hb4 hb5 hlz hH hHe hKz hT ho hal hCV hVk hVr hTX hCH hvc hfr hfx hfs hP hD hS hl kk
                  · skip
                    by_cases c_7 : x_2 = 7
                    · refine lv_tableIn (tgt := 423) hx hb dL_law_40 (by rw [c_7]; decide) (by rw [c_7]; decide) (by rw [c_7]; rfl) (by decide) ?_
                      exact law_at C0 hAd hst hcast hstr hU hN hK3 hn (by omega) hL g_lT g_lL g_lM g_lB g_lH g_lK g_gn g_lG g_lR g_l1 g_l2 g_l3 g_lq g_lp g_lv g_ke g_fsh g_fm g_lm g_lw g_zt g_zp g_zf g_zh g_zr g_zc g_zy g_za g_zb g_zs g_zq g_zn g_zm g_zk g_fG2 g_eS g_eX g_eL g_eB g_e1 g_e2 g_eY g_eE g_eW g_eO g_eZ hzn hrel hrc hr4 hr5 hb4 hb5 hlz hH hHe hKz hT ho hal hCV hVk hVr hTX hCH hvc hfr hfx hfs hP hD hS hl kk
                    · skip
                      by_cases c_8 : x_2 = 8
                      · refine lv_tableIn (tgt := 451) hx hb dL_law_40 (by rw [c_8]; decide) (by rw [c_8]; decide) (by rw [c_8]; rfl) (by decide) ?_
                        exact law_size C0 hAd hK3 hn (by omega) hL g_lT g_lL g_lM g_lB g_lH g_lK g_gn g_lG g_lR g_l1 g_l2 g_l3 g_lq g_lp g_lv g_ke g_fsh g_fm g_lm g_lw g_zt g_zp g_zf g_zh g_zr g_zc g_zy g_za g_zb g_zs g_zq g_zn g_zm g_zk g_fG2 g_eS g_eX g_eL g_eB g_e1 g_e2 g_eY g_eE g_eW g_eO g_eZ hzn hrel hrc hr4 hr5 hb4 hb5 hlz hH hHe hKz hT ho hal hCV hVk hVr hTX hCH hvc hfr hfx hfs hP hD hS hl kk
                      · skip
                        by_cases c_9 : x_2 = 9
                        · refine lv_tableIn (tgt := 476) hx hb dL_law_40 (by rw [c_9]; decide) (by rw [c_9]; decide) (by rw [c_9]; rfl) (by decide) ?_
                          exact law_byteOf C0 hAd hK3 hn (by omega) hL g_lT g_lL g_lM g_lB g_lH g_lK g_gn g_lG g_lR g_l1 g_l2 g_l3 g_lq g_lp g_lv g_ke g_fsh g_fm g_lm g_lw g_zt g_zp g_zf g_zh g_zr g_zc g_zy g_za g_zb g_zs g_zq g_zn g_zm g_zk g_fG2 g_eS g_eX g_eL g_eB g_e1 g_e2 g_eY g_eE g_eW g_eO g_eZ hzn hrel hrc hr4 hr5 hb4 hb5 hlz hH hHe hKz hT ho hal hCV hVk hVr hTX hCH hvc hfr hfx hfs hP hD hS hl kk
                        · skip
                          by_cases c_10 : x_2 = 10
                          · refine lv_tableIn (tgt := 513) hx hb dL_law_40 (by rw [c_10]; decide) (by rw [c_10]; decide) (by rw [c_10]; rfl) (by decide) ?_
                            exact law_where C0 hAd hK3 hn (by omega) hL g_lT g_lL g_lM g_lB g_lH g_lK g_gn g_lG g_lR g_l1 g_l2 g_l3 g_lq g_lp g_lv g_ke g_fsh g_fm g_lm g_lw g_zt g_zp g_zf g_zh g_zr g_zc g_zy g_za g_zb g_zs g_zq g_zn g_zm g_zk g_fG2 g_eS g_eX g_eL g_eB g_e1 g_e2 g_eY g_eE g_eW g_eO g_eZ hzn hrel hrc hr4 hr5 hb4 hb5 hlz hH hHe hKz hT ho hal hCV hVk hVr hTX hCH hvc hfr hfx hfs hP hD hS hl kk
                          · skip
                            by_cases c_11 : x_2 = 11
                            · refine lv_tableIn (tgt := 526) hx hb dL_law_40 (by rw [c_11]; decide) (by rw [c_11]; decide) (by rw [c_11]; rfl) (by decide) ?_
                              exact law_harm C0 hAd hK3 hn (by omega) hL g_lT g_lL g_lM g_lB g_lH g_lK g_gn g_lG g_lR g_l1 g_l2 g_l3 g_lq g_lp g_lv g_ke g_fsh g_fm g_lm g_lw g_zt g_zp g_zf g_zh g_zr g_zc g_zy g_za g_zb g_zs g_zq g_zn g_zm g_zk g_fG2 g_eS g_eX g_eL g_eB g_e1 g_e2 g_eY g_eE g_eW g_eO g_eZ hzn hrel hrc hr4 hr5 hb4 hb5 hlz hH hHe hKz hT ho hal hCV hVk hVr hTX hCH hvc hfr hfx hfs hP hD hS hl kk
                            · skip
                              by_cases c_12 : x_2 = 12
                              · refine lv_tableIn (tgt := 563) hx hb dL_law_40 (by rw [c_12]; decide) (by rw [c_12]; decide) (by rw [c_12]; rfl) (by decide) ?_
                                exact law_rough C0 hAd hK3 hn (by omega) hL g_lT g_lL g_lM g_lB g_lH g_lK g_gn g_lG g_lR g_l1 g_l2 g_l3 g_lq g_lp g_lv g_ke g_fsh g_fm g_lm g_lw g_zt g_zp g_zf g_zh g_zr g_zc g_zy g_za g_zb g_zs g_zq g_zn g_zm g_zk g_fG2 g_eS g_eX g_eL g_eB g_e1 g_e2 g_eY g_eE g_eW g_eO g_eZ hzn hrel hrc hr4 hr5 hb4 hb5 hlz hH hHe hKz hT ho hal hCV hVk hVr hTX hCH hvc hfr hfx hfs hP hD hS hl kk
                              · skip
                                by_cases c_13 : x_2 = 13
                                · refine lv_tableIn (tgt := 600) hx hb dL_law_40 (by rw [c_13]; decide) (by rw [c_13]; decide) (by rw [c_13]; rfl) (by decide) ?_
                                  exact law_undo C0 hAd hK3 hn (by omega) hL g_lT g_lL g_lM g_lB g_lH g_lK g_gn g_lG g_lR g_l1 g_l2 g_l3 g_lq g_lp g_lv g_ke g_fsh g_fm g_lm g_lw g_zt g_zp g_zf g_zh g_zr g_zc g_zy g_za g_zb g_zs g_zq g_zn g_zm g_zk g_fG2 g_eS g_eX g_eL g_eB g_e1 g_e2 g_eY g_eE g_eW g_eO g_eZ hzn hrel hrc hr4 hr5 hb4 hb5 hlz hH hHe hKz hT ho hal hCV hVk hVr hTX hCH hvc hfr hfx hfs hP hD hS hl kk
                                · skip
                                  by_cases c_14 : x_2 = 14
                                  · refine lv_tableIn (tgt := 637) hx hb dL_law_40 (by rw [c_14]; decide) (by rw [c_14]; decide) (by rw [c_14]; rfl) (by decide) ?_
                                    exact law_safe C0 hAd hK3 hn (by omega) hL g_lT g_lL g_lM g_lB g_lH g_lK g_gn g_lG g_lR g_l1 g_l2 g_l3 g_lq g_lp g_lv g_ke g_fsh g_fm g_lm g_lw g_zt g_zp g_zf g_zh g_zr g_zc g_zy g_za g_zb g_zs g_zq g_zn g_zm g_zk g_fG2 g_eS g_eX g_eL g_eB g_e1 g_e2 g_eY g_eE g_eW g_eO g_eZ hzn hrel hrc hr4 hr5 hb4 hb5 hlz hH hHe hKz hT ho hal hCV hVk hVr hTX hCH hvc hfr hfx hfs hP hD hS hl kk
                                  · skip
                                    by_cases c_15 : x_2 = 15
                                    · refine lv_tableIn (tgt := 674) hx hb dL_law_40 (by rw [c_15]; decide) (by rw [c_15]; decide) (by rw [c_15]; rfl) (by decide) ?_
                                      exact law_back C0 hAd hK3 hn (by omega) hL g_lT g_lL g_lM g_lB g_lH g_lK g_gn g_lG g_lR g_l1 g_l2 g_l3 g_lq g_lp g_lv g_ke g_fsh g_fm g_lm g_lw g_zt g_zp g_zf g_zh g_zr g_zc g_zy g_za g_zb g_zs g_zq g_zn g_zm g_zk g_fG2 g_eS g_eX g_eL g_eB g_e1 g_e2 g_eY g_eE g_eW g_eO g_eZ hzn hrel hrc hr4 hr5 hb4 hb5 hlz hH hHe hKz hT ho hal hCV hVk hVr hTX hCH hvc hfr hfx hfs hP hD hS hl kk
                                    · skip
                                      by_cases c_16 : x_2 = 16
                                      · refine lv_tableIn (tgt := 687) hx hb dL_law_40 (by rw [c_16]; decide) (by rw [c_16]; decide) (by rw [c_16]; rfl) (by decide) ?_
                                        exact law_list C0 hAd hK3 hn (by omega) hL g_lT g_lL g_lM g_lB g_lH g_lK g_gn g_lG g_lR g_l1 g_l2 g_l3 g_lq g_lp g_lv g_ke g_fsh g_fm g_lm g_lw g_zt g_zp g_zf g_zh g_zr g_zc g_zy g_za g_zb g_zs g_zq g_zn g_zm g_zk g_fG2 g_eS g_eX g_eL g_eB g_e1 g_e2 g_eY g_eE g_eW g_eO g_eZ hzn hrel hrc hr4 hr5 hb4 hb5 hlz hH hHe hKz hT ho hal hCV hVk hVr hTX hCH hvc hfr hfx hfs hP hD hS hl kk
                                      · skip
                                        by_cases c_17 : x_2 = 17
                                        · refine lv_tableIn (tgt := 724) hx hb dL_law_40 (by rw [c_17]; decide) (by rw [c_17]; decide) (by rw [c_17]; rfl) (by decide) ?_
                                          exact law_unlist C0 hAd hK3 hn (by omega) hL g_lT g_lL g_lM g_lB g_lH g_lK g_gn g_lG g_lR g_l1 g_l2 g_l3 g_lq g_lp g_lv g_ke g_fsh g_fm g_lm g_lw g_zt g_zp g_zf g_zh g_zr g_zc g_zy g_za g_zb g_zs g_zq g_zn g_zm g_zk g_fG2 g_eS g_eX g_eL g_eB g_e1 g_e2 g_eY g_eE g_eW g_eO g_eZ hzn hrel hrc hr4 hr5 hb4 hb5 hlz hH hHe hKz hT ho hal hCV hVk hVr hTX hCH hvc hfr hfx hfs hP hD hS hl kk
                                        · skip
                                          by_cases c_18 : x_2 = 18
                                          · refine lv_tableIn (tgt := 737) hx hb dL_law_40 (by rw [c_18]; decide) (by rw [c_18]; decide) (by rw [c_18]; rfl) (by decide) ?_
                                            exact law_rows C0 hAd hK3 hn (by omega) hL g_lT g_lL g_lM g_lB g_lH g_lK g_gn g_lG g_lR g_l1 g_l2 g_l3 g_lq g_lp g_lv g_ke g_fsh g_fm g_lm g_lw g_zt g_zp g_zf g_zh g_zr g_zc g_zy g_za g_zb g_zs g_zq g_zn g_zm g_zk g_fG2 g_eS g_eX g_eL g_eB g_e1 g_e2 g_eY g_eE g_eW g_eO g_eZ hzn hrel hrc hr4 hr5 hb4 hb5 hlz hH hHe hKz hT ho hal hCV hVk hVr hTX hCH hvc hfr hfx hfs hP hD hS hl kk
                                          · skip
                                            by_cases c_19 : x_2 = 19
                                            · refine lv_tableIn (tgt := 762) hx hb dL_law_40 (by rw [c_19]; decide) (by rw [c_19]; decide) (by rw [c_19]; rfl) (by decide) ?_
                                              exact law_row C0 hAd hK3 hn (by omega) hL g_lT g_lL g_lM g_lB g_lH g_lK g_gn g_lG g_lR g_l1 g_l2 g_l3 g_lq g_lp g_lv g_ke g_fsh g_fm g_lm g_lw g_zt g_zp g_zf g_zh g_zr g_zc g_zy g_za g_zb g_zs g_zq g_zn g_zm g_zk g_fG2 g_eS g_eX g_eL g_eB g_e1 g_e2 g_eY g_eE g_eW g_eO g_eZ hzn hrel hrc hr4 hr5 hb4 hb5 hlz hH hHe hKz hT ho hal hCV hVk hVr hTX hCH hvc hfr hfx hfs hP hD hS hl kk
                                            · skip
                                              by_cases c_20 : x_2 = 20
                                              · refine lv_tableIn (tgt := 799) hx hb dL_law_40 (by rw [c_20]; decide) (by rw [c_20]; decide) (by rw [c_20]; rfl) (by decide) ?_
                                                exact law_cost C0 hAd hK3 hn (by omega) hL g_lT g_lL g_lM g_lB g_lH g_lK g_gn g_lG g_lR g_l1 g_l2 g_l3 g_lq g_lp g_lv g_ke g_fsh g_fm g_lm g_lw g_zt g_zp g_zf g_zh g_zr g_zc g_zy g_za g_zb g_zs g_zq g_zn g_zm g_zk g_fG2 g_eS g_eX g_eL g_eB g_e1 g_e2 g_eY g_eE g_eW g_eO g_eZ hzn hrel hrc hr4 hr5 hb4 hb5 hlz hH hHe hKz hT ho hal hCV hVk hVr hTX hCH hvc hfr hfx hfs hP hD hS hl kk
                                              · skip
                                                by_cases c_21 : x_2 = 21
                                                · refine lv_tableIn (tgt := 848) hx hb dL_law_40 (by rw [c_21]; decide) (by rw [c_21]; decide) (by rw [c_21]; rfl) (by decide) ?_
                                                  exact law_worth C0 hAd hK3 hn (by omega) hL g_lT g_lL g_lM g_lB g_lH g_lK g_gn g_lG g_lR g_l1 g_l2 g_l3 g_lq g_lp g_lv g_ke g_fsh g_fm g_lm g_lw g_zt g_zp g_zf g_zh g_zr g_zc g_zy g_za g_zb g_zs g_zq g_zn g_zm g_zk g_fG2 g_eS g_eX g_eL g_eB g_e1 g_e2 g_eY g_eE g_eW g_eO g_eZ hzn hrel hrc hr4 hr5 hb4 hb5 hlz hH hHe hKz hT ho hal hCV hVk hVr hTX hCH hvc hfr hfx hfs hP hD hS hl kk
                                                · skip
                                                  by_cases c_22 : x_2 = 22
                                                  · refine lv_tableIn (tgt := 861) hx hb dL_law_40 (by rw [c_22]; decide) (by rw [c_22]; decide) (by rw [c_22]; rfl) (by decide) ?_
                                                    exact law_mend C0 hAd hK3 hn (by omega) hL g_lT g_lL g_lM g_lB g_lH g_lK g_gn g_lG g_lR g_l1 g_l2 g_l3 g_lq g_lp g_lv g_ke g_fsh g_fm g_lm g_lw g_zt g_zp g_zf g_zh g_zr g_zc g_zy g_za g_zb g_zs g_zq g_zn g_zm g_zk g_fG2 g_eS g_eX g_eL g_eB g_e1 g_e2 g_eY g_eE g_eW g_eO g_eZ hzn hrel hrc hr4 hr5 hb4 hb5 hlz hH hHe hKz hT ho hal hCV hVk hVr hTX hCH hvc hfr hfx hfs hP hD hS hl kk
                                                  · skip
                                                    by_cases c_23 : x_2 = 23
                                                    · refine lv_tableIn (tgt := 898) hx hb dL_law_40 (by rw [c_23]; decide) (by rw [c_23]; decide) (by rw [c_23]; rfl) (by decide) ?_
                                                      exact law_parts C0 hAd hK3 hn (by omega) hL g_lT g_lL g_lM g_lB g_lH g_lK g_gn g_lG g_lR g_l1 g_l2 g_l3 g_lq g_lp g_lv g_ke g_fsh g_fm g_lm g_lw g_zt g_zp g_zf g_zh g_zr g_zc g_zy g_za g_zb g_zs g_zq g_zn g_zm g_zk g_fG2 g_eS g_eX g_eL g_eB g_e1 g_e2 g_eY g_eE g_eW g_eO g_eZ hzn hrel hrc hr4 hr5 hb4 hb5 hlz hH hHe hKz hT ho hal hCV hVk hVr hTX hCH hvc hfr hfx hfs hP hD hS hl kk
                                                    · skip
                                                      by_cases c_24 : x_2 = 24
                                                      · refine lv_tableIn (tgt := 923) hx hb dL_law_40 (by rw [c_24]; decide) (by rw [c_24]; decide) (by rw [c_24]; rfl) (by decide) ?_
                                                        exact law_choices C0 hAd hK3 hn (by omega) hL g_lT g_lL g_lM g_lB g_lH g_lK g_gn g_lG g_lR g_l1 g_l2 g_l3 g_lq g_lp g_lv g_ke g_fsh g_fm g_lm g_lw g_zt g_zp g_zf g_zh g_zr g_zc g_zy g_za g_zb g_zs g_zq g_zn g_zm g_zk g_fG2 g_eS g_eX g_eL g_eB g_e1 g_e2 g_eY g_eE g_eW g_eO g_eZ hzn hrel hrc hr4 hr5 hb4 hb5 hlz hH hHe hKz hT ho hal hCV hVk hVr hTX hCH hvc hfr hfx hfs hP hD hS hl kk
                                                      · skip
                                                        by_cases c_25 : x_2 = 25
                                                        · refine lv_tableIn (tgt := 960) hx hb dL_law_40 (by rw [c_25]; decide) (by rw [c_25]; decide) (by rw [c_25]; rfl) (by decide) ?_
                                                          exact law_choice C0 hAd hK3 hn (by omega) hL g_lT g_lL g_lM g_lB g_lH g_lK g_gn g_lG g_lR g_l1 g_l2 g_l3 g_lq g_lp g_lv g_ke g_fsh g_fm g_lm g_lw g_zt g_zp g_zf g_zh g_zr g_zc g_zy g_za g_zb g_zs g_zq g_zn g_zm g_zk g_fG2 g_eS g_eX g_eL g_eB g_e1 g_e2 g_eY g_eE g_eW g_eO g_eZ hzn hrel hrc hr4 hr5 hb4 hb5 hlz hH hHe hKz hT ho hal hCV hVk hVr hTX hCH hvc hfr hfx hfs hP hD hS hl kk
                                                        · skip
                                                          by_cases c_26 : x_2 = 26
                                                          · refine lv_tableIn (tgt := 997) hx hb dL_law_40 (by rw [c_26]; decide) (by rw [c_26]; decide) (by rw [c_26]; rfl) (by decide) ?_
                                                            exact law_chosen C0 hAd hK3 hn (by omega) hL g_lT g_lL g_lM g_lB g_lH g_lK g_gn g_lG g_lR g_l1 g_l2 g_l3 g_lq g_lp g_lv g_ke g_fsh g_fm g_lm g_lw g_zt g_zp g_zf g_zh g_zr g_zc g_zy g_za g_zb g_zs g_zq g_zn g_zm g_zk g_fG2 g_eS g_eX g_eL g_eB g_e1 g_e2 g_eY g_eE g_eW g_eO g_eZ hzn hrel hrc hr4 hr5 hb4 hb5 hlz hH hHe hKz hT ho hal hCV hVk hVr hTX hCH hvc hfr hfx hfs hP hD hS hl kk
                                                          · skip
                                                            refine lv_tableOut (tgt := 1022) hx hb dL_law_40 (by have z0 : ¬ Int32.toInt x_2 = 0 := lv_neT c_0 rfl; have z1 : ¬ Int32.toInt x_2 = 1 := lv_neT c_1 rfl; have z2 : ¬ Int32.toInt x_2 = 2 := lv_neT c_2 rfl; have z3 : ¬ Int32.toInt x_2 = 3 := lv_neT c_3 rfl; have z4 : ¬ Int32.toInt x_2 = 4 := lv_neT c_4 rfl; have z5 : ¬ Int32.toInt x_2 = 5 := lv_neT c_5 rfl; have z6 : ¬ Int32.toInt x_2 = 6 := lv_neT c_6 rfl; have z7 : ¬ Int32.toInt x_2 = 7 := lv_neT c_7 rfl; have z8 : ¬ Int32.toInt x_2 = 8 := lv_neT c_8 rfl; have z9 : ¬ Int32.toInt x_2 = 9 := lv_neT c_9 rfl; have z10 : ¬ Int32.toInt x_2 = 10 := lv_neT c_10 rfl; have z11 : ¬ Int32.toInt x_2 = 11 := lv_neT c_11 rfl; have z12 : ¬ Int32.toInt x_2 = 12 := lv_neT c_12 rfl; have z13 : ¬ Int32.toInt x_2 = 13 := lv_neT c_13 rfl; have z14 : ¬ Int32.toInt x_2 = 14 := lv_neT c_14 rfl; have z15 : ¬ Int32.toInt x_2 = 15 := lv_neT c_15 rfl; have z16 : ¬ Int32.toInt x_2 = 16 := lv_neT c_16 rfl; have z17 : ¬ Int32.toInt x_2 = 17 := lv_neT c_17 rfl; have z18 : ¬ Int32.toInt x_2 = 18 := lv_neT c_18 rfl; have z19 : ¬ Int32.toInt x_2 = 19 := lv_neT c_19 rfl; have z20 : ¬ Int32.toInt x_2 = 20 := lv_neT c_20 rfl; have z21 : ¬ Int32.toInt x_2 = 21 := lv_neT c_21 rfl; have z22 : ¬ Int32.toInt x_2 = 22 := lv_neT c_22 rfl; have z23 : ¬ Int32.toInt x_2 = 23 := lv_neT c_23 rfl; have z24 : ¬ Int32.toInt x_2 = 24 := lv_neT c_24 rfl; have z25 : ¬ Int32.toInt x_2 = 25 := lv_neT c_25 rfl; have z26 : ¬ Int32.toInt x_2 = 26 := lv_neT c_26 rfl; omega) (by decide) ?_
                                                            refine W.widen (k := 90 + (nc + 1)) (n := 172225 + 6 * (nc + 1)) (by omega) (by omega) ?_
                                                            exact kk fa lT lL lM l4 l5 ft lB lH lK gn lG lR l1 l2 l3 pr reE laE suE leE lq lp lv ke tl fsh wi ri fm lm lw re7 la7 su7 le7 re8 la8 su8 le8 re9 la9 su9 le9 zt zp zf zh zr zc zy za zb zs zq zw ze zn zm zl zk zd fT fL fM f41 f42 f43 f51 f52 f53 fB fH1 fH2 fK1 fK2 fG1 fG2 f1 f2 f3 fR1 fR2 fR3 fR4 fR5 fR6 fq fp fv fQ1 fQ2 fQ3 fQ4 fw fW1 fW2 fW3 fW4 fW5 fW6 fW7 eT eS eX eL eB eD e1 e2 eR ec1 ec2 ec3 eH eY eE eW eO er1 er2 er3 er4 eZ fJ _ _ _ (INV_up hI) hP hD hS hl

end
