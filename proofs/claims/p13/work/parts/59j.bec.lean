set_option maxHeartbeats 40000000 in
set_option maxRecDepth 100000 in
theorem f_X12_bec (l : Launch) (dC : Nat → ClassId) (dI : Nat → Nat → Nat) (cI cS : ClassId) (sz : Nat) (oM : Nat) (rw : Nat) (mT : Nat) (mS : Nat) (mX : Nat) (mL : Nat) (mB : Nat) (mD : Nat) (m1 : Nat) (m2 : Nat) (mR : Nat) (x1 : Nat) (x2 : Nat) (x3 : Nat) (mH : Nat) (mY : Nat) (mE : Nat) (mW : Nat) (mO : Nat) (y1 : Nat) (y2 : Nat) (y3 : Nat) (y4 : Nat) (mZ : Nat) (cw : Nat) (zt : Int32) (zp : Int32) (zf : Int32) (zh : Int32) (zr : Int32) (zc : Int32) (zy : Int32) (za : Int32) (zb : Int32) (zs : Int32) (zq : Int32) (zw : Int32) (ze : Int32) (zn : Int32) (zm : Int32) (zl : Int32) (zk : Int32) (zd : Int32) (eS : Nat → Int32) (eX : Nat → Int32) (fr : Nat → Int32) (n : Int32) (g_zt : 0 ≤ zt.toInt ∧ zt.toInt ≤ 900) (g_zp : 0 ≤ zp.toInt ∧ zp.toInt ≤ 20) (g_zf : 0 ≤ zf.toInt ∧ zf.toInt ≤ 19) (g_zh : 0 ≤ zh.toInt ∧ zh.toInt ≤ 6) (g_zr : 0 ≤ zr.toInt ∧ zr.toInt ≤ 258) (g_zc : 0 ≤ zc.toInt ∧ zc.toInt ≤ 300) (g_zy : 0 ≤ zy.toInt ∧ zy.toInt ≤ 65536) (g_za : 0 ≤ za.toInt ∧ za.toInt ≤ 5) (g_zb : 0 ≤ zb.toInt ∧ zb.toInt ≤ 5) (g_zs : 0 ≤ zs.toInt ∧ zs.toInt ≤ 2000000) (g_zq : -1 ≤ zq.toInt ∧ zq.toInt ≤ 2000000) (g_zn : 0 ≤ zn.toInt ∧ zn.toInt ≤ 2600) (g_zm : 0 ≤ zm.toInt ∧ zm.toInt ≤ 2600) (g_zk : 0 ≤ zk.toInt ∧ zk.toInt ≤ 300) (g_eS : rg 0 300 eS) (g_eX : rg 0 65535 eX) (g_n : 0 ≤ n.toInt ∧ n.toInt ≤ 300) (hcw : n.toInt ≤ (cw : Int)) (hcw2 : cw ≤ 6300) (hrow : prg n.toInt 0 65535 fr) (hzs : zs.toInt ≤ 1000000) : Met l yX12_become wsX12_become ({ frames := 0, cells := 0, slots := 0, locals := 0 } : Room) (va_Pc [.ref oM, .ref rw, .int n] (fun U => U.heap.size = sz ∧ va_P (dC, dI) vwCl [(oM, .inr (12, [.ref mT, .int zt, .ref mS, .ref mX, .int zp, .int zf, .ref mL, .ref mB, .ref mD, .ref m1, .ref m2, .int zh, .ref mR, .int zr, .ref x1, .ref x2, .ref x3, .int zc, .ref mH, .int zy, .int za, .int zb, .int zs, .int zq, .int zw, .int ze, .ref mY, .int zn, .ref mE, .int zm, .int zl, .ref mW, .int zk, .ref mO, .int zd, .ref y1, .ref y2, .ref y3, .ref y4, .ref mZ])), (mS, .inl (cI, 21, .inl eS)), (mX, .inl (cI, 6300, .inl eX)), (rw, .inl (cI, cw, .inl fr))] U.heap ∧ va_K (dC, dI) vwCl [(cI, .int), (cS, .short)] U ∧ va_D (fun _ => True) [(oM, .inr (12, [.ref mT, .int zt, .ref mS, .ref mX, .int zp, .int zf, .ref mL, .ref mB, .ref mD, .ref m1, .ref m2, .int zh, .ref mR, .int zr, .ref x1, .ref x2, .ref x3, .int zc, .ref mH, .int zy, .int za, .int zb, .int zs, .int zq, .int zw, .int ze, .ref mY, .int zn, .ref mE, .int zm, .int zl, .ref mW, .int zk, .ref mO, .int zd, .ref y1, .ref y2, .ref y3, .ref y4, .ref mZ])), (mS, .inl (cI, 21, .inl eS)), (mX, .inl (cI, 6300, .inl eX)), (rw, .inl (cI, cw, .inl fr))])) (va_Qv (fun (_ : Unit) => True) (fun _ t => ∃ (zp' : Int32) (zf' : Int32) (zs' : Int32) (eS' : Nat → Int32) (eX' : Nat → Int32), va_P (dC, dI) vwCl [(oM, .inr (12, [.ref mT, .int zt, .ref mS, .ref mX, .int zp', .int zf', .ref mL, .ref mB, .ref mD, .ref m1, .ref m2, .int zh, .ref mR, .int zr, .ref x1, .ref x2, .ref x3, .int zc, .ref mH, .int zy, .int za, .int zb, .int zs', .int zq, .int zw, .int ze, .ref mY, .int zn, .ref mE, .int zm, .int zl, .ref mW, .int zk, .ref mO, .int zd, .ref y1, .ref y2, .ref y3, .ref y4, .ref mZ])), (mS, .inl (cI, 21, .inl eS')), (mX, .inl (cI, 6300, .inl eX')), (rw, .inl (cI, cw, .inl fr))] t.heap ∧ va_D (va_A [(oM, .inr (12, [.ref mT, .int zt, .ref mS, .ref mX, .int zp, .int zf, .ref mL, .ref mB, .ref mD, .ref m1, .ref m2, .int zh, .ref mR, .int zr, .ref x1, .ref x2, .ref x3, .int zc, .ref mH, .int zy, .int za, .int zb, .int zs, .int zq, .int zw, .int ze, .ref mY, .int zn, .ref mE, .int zm, .int zl, .ref mW, .int zk, .ref mO, .int zd, .ref y1, .ref y2, .ref y3, .ref y4, .ref mZ])), (mS, .inl (cI, 21, .inl eS)), (mX, .inl (cI, 6300, .inl eX)), (rw, .inl (cI, cw, .inl fr))] sz) [(oM, .inr (12, [.ref mT, .int zt, .ref mS, .ref mX, .int zp', .int zf', .ref mL, .ref mB, .ref mD, .ref m1, .ref m2, .int zh, .ref mR, .int zr, .ref x1, .ref x2, .ref x3, .int zc, .ref mH, .int zy, .int za, .int zb, .int zs', .int zq, .int zw, .int ze, .ref mY, .int zn, .ref mE, .int zm, .int zl, .ref mW, .int zk, .ref mO, .int zd, .ref y1, .ref y2, .ref y3, .ref y4, .ref mZ])), (mS, .inl (cI, 21, .inl eS')), (mX, .inl (cI, 6300, .inl eX')), (rw, .inl (cI, cw, .inl fr))] ∧ (0 ≤ zp'.toInt ∧ zp'.toInt ≤ 20) ∧ (0 ≤ zf'.toInt ∧ zf'.toInt ≤ 19) ∧ (0 ≤ zs'.toInt ∧ zs'.toInt ≤ 2000000) ∧ (rg 0 300 eS') ∧ (rg 0 65535 eX') ∧ (zs'.toInt = zs.toInt + 1) ∧ (F_bR zp zp' zf zf' n eS eS' eX eX' fr)) (va_A [(oM, .inr (12, [.ref mT, .int zt, .ref mS, .ref mX, .int zp, .int zf, .ref mL, .ref mB, .ref mD, .ref m1, .ref m2, .int zh, .ref mR, .int zr, .ref x1, .ref x2, .ref x3, .int zc, .ref mH, .int zy, .int za, .int zb, .int zs, .int zq, .int zw, .int ze, .ref mY, .int zn, .ref mE, .int zm, .int zl, .ref mW, .int zk, .ref mO, .int zd, .ref y1, .ref y2, .ref y3, .ref y4, .ref mZ])), (mS, .inl (cI, 21, .inl eS)), (mX, .inl (cI, 6300, .inl eX)), (rw, .inl (cI, cw, .inl fr))] sz)) 0 0 (va_A [(oM, .inr (12, [.ref mT, .int zt, .ref mS, .ref mX, .int zp, .int zf, .ref mL, .ref mB, .ref mD, .ref m1, .ref m2, .int zh, .ref mR, .int zr, .ref x1, .ref x2, .ref x3, .int zc, .ref mH, .int zy, .int za, .int zb, .int zs, .int zq, .int zw, .int ze, .ref mY, .int zn, .ref mE, .int zm, .int zl, .ref mW, .int zk, .ref mO, .int zd, .ref y1, .ref y2, .ref y3, .ref y4, .ref mZ])), (mS, .inl (cI, 21, .inl eS)), (mX, .inl (cI, 6300, .inl eX)), (rw, .inl (cI, cw, .inl fr))] sz) := by
  refine Met.ofW (cc := cX12_become) (maxL := 5) (ret := none) (by decide) rfl ?_
  intro p e s m args below meth c s₁ B hml hv
  obtain ⟨rfl, hsz, hP, hK, hD0⟩ := hv
  have hx := B.exec
  have hb := B.bytes
  have hr := B.returns
  have hts := atoms_spec (ws := wsX12_become) B.pre
  have hown : s.vm.findClass RX12 = some m.cls := findClass_of_methodNamed B.named
  have hlocks := B.notSynchronized
  have in_X12 : ∀ w ∈ wsX120, w ∈ wsX12_become := fun _ h => List.mem_cons_of_mem _ (List.mem_append_right _ (h))
  subst hsz
  have hD := hD0.self (sz := s.heap.size)
  generalize hAe : va_A [(oM, .inr (12, [.ref mT, .int zt, .ref mS, .ref mX, .int zp, .int zf, .ref mL, .ref mB, .ref mD, .ref m1, .ref m2, .int zh, .ref mR, .int zr, .ref x1, .ref x2, .ref x3, .int zc, .ref mH, .int zy, .int za, .int zb, .int zs, .int zq, .int zw, .int ze, .ref mY, .int zn, .ref mE, .int zm, .int zl, .ref mW, .int zk, .ref mO, .int zd, .ref y1, .ref y2, .ref y3, .ref y4, .ref mZ])), (mS, .inl (cI, 21, .inl eS)), (mX, .inl (cI, 6300, .inl eX)), (rw, .inl (cI, cw, .inl fr))] s.heap.size = A at hD ⊢
  have hA : ∀ q : Nat, s.heap.size ≤ q → A q := fun q h => by rw [← hAe]; exact Or.inr h
  have hS : va_S A s.heap s.heap [] := va_S.rf
  have hP : va_P (dC, dI) vwCl [(oM, .inr (12, [.ref mT, .int zt, .ref mS, .ref mX, .int zp, .int zf, .ref mL, .ref mB, .ref mD, .ref m1, .ref m2, .int zh, .ref mR, .int zr, .ref x1, .ref x2, .ref x3, .int zc, .ref mH, .int zy, .int za, .int zb, .int zs, .int zq, .int zw, .int ze, .ref mY, .int zn, .ref mE, .int zm, .int zl, .ref mW, .int zk, .ref mO, .int zd, .ref y1, .ref y2, .ref y3, .ref y4, .ref mZ])), (mS, .inl (cI, 21, .inl eS)), (mX, .inl (cI, 6300, .inl eX)), (rw, .inl (cI, cw, .inl fr))] s.heap := hP
  have hl := lv_entry ([.ref oM, .ref rw, .int n]) (n := 5) (Nat.le_of_ble_eq_true rfl)
  rw [lg_entry_eq]
  generalize (lg_sl ([.ref oM, .ref rw, .int n]) ++ List.replicate (5 - (lg_sl ([.ref oM, .ref rw, .int n])).length) Slot.unset).toArray = ls at hl ⊢
  have hl : lv_has ls 5 [(0, .ref oM), (1, .ref rw), (2, .int n)] := hl
  obtain ⟨QQ, hQQ⟩ : ∃ QQ : Array Value → State → Outcome → State → Prop, QQ = va_Qv (fun (_ : Unit) => True) (fun _ t => ∃ (zp' : Int32) (zf' : Int32) (zs' : Int32) (eS' : Nat → Int32) (eX' : Nat → Int32), va_P (dC, dI) vwCl [(oM, .inr (12, [.ref mT, .int zt, .ref mS, .ref mX, .int zp', .int zf', .ref mL, .ref mB, .ref mD, .ref m1, .ref m2, .int zh, .ref mR, .int zr, .ref x1, .ref x2, .ref x3, .int zc, .ref mH, .int zy, .int za, .int zb, .int zs', .int zq, .int zw, .int ze, .ref mY, .int zn, .ref mE, .int zm, .int zl, .ref mW, .int zk, .ref mO, .int zd, .ref y1, .ref y2, .ref y3, .ref y4, .ref mZ])), (mS, .inl (cI, 21, .inl eS')), (mX, .inl (cI, 6300, .inl eX')), (rw, .inl (cI, cw, .inl fr))] t.heap ∧ va_D A [(oM, .inr (12, [.ref mT, .int zt, .ref mS, .ref mX, .int zp', .int zf', .ref mL, .ref mB, .ref mD, .ref m1, .ref m2, .int zh, .ref mR, .int zr, .ref x1, .ref x2, .ref x3, .int zc, .ref mH, .int zy, .int za, .int zb, .int zs', .int zq, .int zw, .int ze, .ref mY, .int zn, .ref mE, .int zm, .int zl, .ref mW, .int zk, .ref mO, .int zd, .ref y1, .ref y2, .ref y3, .ref y4, .ref mZ])), (mS, .inl (cI, 21, .inl eS')), (mX, .inl (cI, 6300, .inl eX')), (rw, .inl (cI, cw, .inl fr))] ∧ (0 ≤ zp'.toInt ∧ zp'.toInt ≤ 20) ∧ (0 ≤ zf'.toInt ∧ zf'.toInt ≤ 19) ∧ (0 ≤ zs'.toInt ∧ zs'.toInt ≤ 2000000) ∧ (rg 0 300 eS') ∧ (rg 0 65535 eX') ∧ (zs'.toInt = zs.toInt + 1) ∧ (F_bR zp zp' zf zf' n eS eS' eX eX' fr)) A := ⟨_, rfl⟩
  rw [← hQQ]
  have gS0 := g_eS 0
  refine lv_aload_n hx hb dX12_become_0 rfl (lv_at hl 0 rfl) ?_
  refine va_get (D := (dC, dI)) (ci := 12) (v := .int zp) (C := RX12) (T := TX12) (N := 40) hx hb hts in_X12 hown hK hP 0 rfl rfl 4 (by decide) (hts (.fieldLink RX12 142 "TextMenderModel" "past" "I") (List.mem_of_getElem? (i := 1) rfl)) (fun _ h9 => h9) rfl dX12_become_1 ?_
  refine lv_bipush (v := 20) hx hb dX12_become_4 (by decide) ?_
  refine lv_icmp_ne (tgt := 25) hx hb dX12_become_6 (by decide) (fun c_1 => ?_) (fun c_1 => ?_)
  · have tc_1 : ¬ zp.toInt = 20 := v_ne c_1
    refine lv_aload_n hx hb dX12_become_25 rfl (lv_at hl 0 rfl) ?_
    refine lv_dup hx hb dX12_become_26 rfl ?_
    refine va_get (D := (dC, dI)) (ci := 12) (v := .int zp) (C := RX12) (T := TX12) (N := 40) hx hb hts in_X12 hown hK hP 0 rfl rfl 4 (by decide) (hts (.fieldLink RX12 142 "TextMenderModel" "past" "I") (List.mem_of_getElem? (i := 1) rfl)) (fun _ h9 => h9) rfl dX12_become_27 ?_
    refine lv_iconst (v := 1) hx hb dX12_become_30 (by decide) ?_
    refine lv_iadd hx hb dX12_become_31 ?_
    refine lv_topi (fun x_2 ex_2 => ?_)
    have tx_2 : x_2.toInt = zp.toInt + 1 := v_add ex_2 (by show -2147483648 ≤ zp.toInt + 1; omega) (by show zp.toInt + 1 < 2147483648; omega)
    refine va_put (D := (dC, dI)) (ci := 12) (v := .int x_2) (ty := .int) (C := RX12) (T := TX12) (N := 40) hx hb hts in_X12 tyX12 tyX12_ok nmX12 hown hK hP hD hS 0 rfl rfl 4 (by decide) (hts (.fieldLink RX12 142 "TextMenderModel" "past" "I") (List.mem_of_getElem? (i := 1) rfl)) (fun _ h9 => h9) rfl (by decide +kernel) rfl rfl (Nat.le_of_ble_eq_true rfl) dX12_become_32 (fun H locs hP hD hS => ?_)
    have hP : va_P (dC, dI) vwCl [(oM, .inr (12, [.ref mT, .int zt, .ref mS, .ref mX, .int x_2, .int zf, .ref mL, .ref mB, .ref mD, .ref m1, .ref m2, .int zh, .ref mR, .int zr, .ref x1, .ref x2, .ref x3, .int zc, .ref mH, .int zy, .int za, .int zb, .int zs, .int zq, .int zw, .int ze, .ref mY, .int zn, .ref mE, .int zm, .int zl, .ref mW, .int zk, .ref mO, .int zd, .ref y1, .ref y2, .ref y3, .ref y4, .ref mZ])), (mS, .inl (cI, 21, .inl eS)), (mX, .inl (cI, 6300, .inl eX)), (rw, .inl (cI, cw, .inl fr))] H := hP
    have hD : va_D A [(oM, .inr (12, [.ref mT, .int zt, .ref mS, .ref mX, .int x_2, .int zf, .ref mL, .ref mB, .ref mD, .ref m1, .ref m2, .int zh, .ref mR, .int zr, .ref x1, .ref x2, .ref x3, .int zc, .ref mH, .int zy, .int za, .int zb, .int zs, .int zq, .int zw, .int ze, .ref mY, .int zn, .ref mE, .int zm, .int zl, .ref mW, .int zk, .ref mO, .int zd, .ref y1, .ref y2, .ref y3, .ref y4, .ref mZ])), (mS, .inl (cI, 21, .inl eS)), (mX, .inl (cI, 6300, .inl eX)), (rw, .inl (cI, cw, .inl fr))] := hD
    refine lv_iconst (v := 1) hx hb dX12_become_35 (by decide) ?_
    refine lv_aload_n hx hb dX12_become_36 rfl (lv_at hl 0 rfl) ?_
    refine va_get (D := (dC, dI)) (ci := 12) (v := .int zf) (C := RX12) (T := TX12) (N := 40) hx hb hts in_X12 hown hK hP 0 rfl rfl 5 (by decide) (hts (.fieldLink RX12 145 "TextMenderModel" "firstPast" "I") (List.mem_of_getElem? (i := 2) rfl)) (fun _ h9 => h9) rfl dX12_become_37 ?_
    refine lv_aload_n hx hb dX12_become_40 rfl (lv_at hl 0 rfl) ?_
    refine va_get (D := (dC, dI)) (ci := 12) (v := .int x_2) (C := RX12) (T := TX12) (N := 40) hx hb hts in_X12 hown hK hP 0 rfl rfl 4 (by decide) (hts (.fieldLink RX12 142 "TextMenderModel" "past" "I") (List.mem_of_getElem? (i := 1) rfl)) (fun _ h9 => h9) rfl dX12_become_41 ?_
    refine lv_iadd hx hb dX12_become_44 ?_
    refine lv_topi (fun x_3 ex_3 => ?_)
    have tx_3 : x_3.toInt = zf.toInt + x_2.toInt := v_add ex_3 (by show -2147483648 ≤ zf.toInt + x_2.toInt; omega) (by show zf.toInt + x_2.toInt < 2147483648; omega)
    refine lv_iconst (v := 1) hx hb dX12_become_45 (by decide) ?_
    refine lv_isub hx hb dX12_become_46 ?_
    refine lv_topi (fun x_4 ex_4 => ?_)
    have tx_4 : x_4.toInt = x_3.toInt - 1 := v_sub ex_4 (by show -2147483648 ≤ x_3.toInt - 1; omega) (by show x_3.toInt - 1 < 2147483648; omega)
    refine lv_bipush (v := 20) hx hb dX12_become_47 (by decide) ?_
    refine lv_irem hx hb dX12_become_49 (by decide) ?_
    refine lv_topi (fun x_5 ex_5 => ?_)
    have tx_5 : x_5.toInt = x_4.toInt % 20 := v_rem ex_5 (by omega) (by decide)
    refine lv_iadd hx hb dX12_become_50 ?_
    refine lv_topi (fun x_6 ex_6 => ?_)
    have tx_6 : x_6.toInt = 1 + x_5.toInt := v_add ex_6 (by show -2147483648 ≤ 1 + x_5.toInt; omega) (by show 1 + x_5.toInt < 2147483648; omega)
    refine lv_istore_n (lv' := [(3, .int x_6), (0, .ref oM), (1, .ref rw), (2, .int n)]) hx hb dX12_become_51 rfl hl (by decide) rfl (fun ls hl => ?_)
    refine lv_aload_n hx hb dX12_become_52 rfl (lv_at hl 1 rfl) ?_
    refine va_get (D := (dC, dI)) (ci := 12) (v := .ref mS) (C := RX12) (T := TX12) (N := 40) hx hb hts in_X12 hown hK hP 0 rfl rfl 2 (by decide) (hts (.fieldLink RX12 13 "TextMenderModel" "sizes" "[I") (List.mem_of_getElem? (i := 3) rfl)) (fun _ h9 => h9) rfl dX12_become_53 ?_
    refine lv_iload_n hx hb dX12_become_56 rfl (lv_at hl 0 rfl) ?_
    refine lv_aload_n hx hb dX12_become_57 rfl (lv_at hl 1 rfl) ?_
    refine va_get (D := (dC, dI)) (ci := 12) (v := .ref mS) (C := RX12) (T := TX12) (N := 40) hx hb hts in_X12 hown hK hP 0 rfl rfl 2 (by decide) (hts (.fieldLink RX12 13 "TextMenderModel" "sizes" "[I") (List.mem_of_getElem? (i := 3) rfl)) (fun _ h9 => h9) rfl dX12_become_58 ?_
    refine lv_iconst (v := 0) hx hb dX12_become_61 (by decide) ?_
    refine va_iald hx hb hK hP 1 0 rfl rfl (by unfold vp_in; decide) dX12_become_62 ?_
    refine lv_topi (fun x_7 ex_7 => ?_)
    have tx_7 : 0 ≤ x_7.toInt ∧ x_7.toInt ≤ 300 := rg_at g_eS ex_7
    refine va_iast hx hb hK hP hD hS 1 0 rfl rfl (v_in (by omega)) dX12_become_63 (fun H locs hP hD hS => ?_)
    have hP : va_P (dC, dI) vwCl [(oM, .inr (12, [.ref mT, .int zt, .ref mS, .ref mX, .int x_2, .int zf, .ref mL, .ref mB, .ref mD, .ref m1, .ref m2, .int zh, .ref mR, .int zr, .ref x1, .ref x2, .ref x3, .int zc, .ref mH, .int zy, .int za, .int zb, .int zs, .int zq, .int zw, .int ze, .ref mY, .int zn, .ref mE, .int zm, .int zl, .ref mW, .int zk, .ref mO, .int zd, .ref y1, .ref y2, .ref y3, .ref y4, .ref mZ])), (mS, .inl (cI, 21, .inl (upd eS (x_6 : Int32).toNatClampNeg x_7))), (mX, .inl (cI, 6300, .inl eX)), (rw, .inl (cI, cw, .inl fr))] H := hP
    have hD : va_D A [(oM, .inr (12, [.ref mT, .int zt, .ref mS, .ref mX, .int x_2, .int zf, .ref mL, .ref mB, .ref mD, .ref m1, .ref m2, .int zh, .ref mR, .int zr, .ref x1, .ref x2, .ref x3, .int zc, .ref mH, .int zy, .int za, .int zb, .int zs, .int zq, .int zw, .int ze, .ref mY, .int zn, .ref mE, .int zm, .int zl, .ref mW, .int zk, .ref mO, .int zd, .ref y1, .ref y2, .ref y3, .ref y4, .ref mZ])), (mS, .inl (cI, 21, .inl (upd eS (x_6 : Int32).toNatClampNeg x_7))), (mX, .inl (cI, 6300, .inl eX)), (rw, .inl (cI, cw, .inl fr))] := hD
    obtain ⟨f_8, ef_8⟩ : ∃ g : Nat → Int32, g = upd eS (x_6 : Int32).toNatClampNeg x_7 := ⟨_, rfl⟩
    rw [← ef_8] at hP hD
    have g_f8 : rg 0 300 f_8 := rg_upd ef_8 g_eS (by omega)
    refine lv_iconst (v := 0) hx hb dX12_become_64 (by decide) ?_
    refine lv_istore (lv' := [(4, .int 0), (3, .int x_6), (0, .ref oM), (1, .ref rw), (2, .int n)]) hx hb dX12_become_65 hl (by decide) rfl (fun ls hl => ?_)
    have LOOP_67 : ∀ (k_67 : Nat) (k : Int32) (eXa : Nat → Int32) (H : Heap) (locs : List Loc) (ls : Array Slot), (300 - k.toInt : Int).toNat < k_67 → (0 ≤ k.toInt ∧ k.toInt ≤ 300) → (rg 0 65535 eXa) → (k.toInt ≤ (eS 0).toInt) → (CPB (300 * x_6.toInt) k.toInt eX eXa eX) → va_P (dC, dI) vwCl [(oM, .inr (12, [.ref mT, .int zt, .ref mS, .ref mX, .int x_2, .int zf, .ref mL, .ref mB, .ref mD, .ref m1, .ref m2, .int zh, .ref mR, .int zr, .ref x1, .ref x2, .ref x3, .int zc, .ref mH, .int zy, .int za, .int zb, .int zs, .int zq, .int zw, .int ze, .ref mY, .int zn, .ref mE, .int zm, .int zl, .ref mW, .int zk, .ref mO, .int zd, .ref y1, .ref y2, .ref y3, .ref y4, .ref mZ])), (mS, .inl (cI, 21, .inl f_8)), (mX, .inl (cI, 6300, .inl eXa)), (rw, .inl (cI, cw, .inl fr))] H → va_D A [(oM, .inr (12, [.ref mT, .int zt, .ref mS, .ref mX, .int x_2, .int zf, .ref mL, .ref mB, .ref mD, .ref m1, .ref m2, .int zh, .ref mR, .int zr, .ref x1, .ref x2, .ref x3, .int zc, .ref mH, .int zy, .int za, .int zb, .int zs, .int zq, .int zw, .int ze, .ref mY, .int zn, .ref mE, .int zm, .int zl, .ref mW, .int zk, .ref mO, .int zd, .ref y1, .ref y2, .ref y3, .ref y4, .ref mZ])), (mS, .inl (cI, 21, .inl f_8)), (mX, .inl (cI, 6300, .inl eXa)), (rw, .inl (cI, cw, .inl fr))] → va_S A s.heap H locs → lv_has ls 5 [(4, .int k), (3, .int x_6), (0, .ref oM), (1, .ref rw), (2, .int n)] → W p l e (headSpec wsX12_become ({ frames := 0, cells := 0, slots := 0, locals := 0 } : Room)).room s m ([.ref oM, .ref rw, .int n] : List Value).toArray below meth c H locs 0 0 (MQ below QQ ([.ref oM, .ref rw, .int n] : List Value).toArray s 0 0 A) (F0 m 67 ls []) := by
      intro k_67
      induction k_67 with
      | zero =>
        intro k eXa H locs ls hm_67 g_k g_eXa hks hcb hP hD hS hl
        exact absurd hm_67 (Nat.not_lt_zero _)
      | succ k_67 ih_67 =>
        intro k eXa H locs ls hm_67 g_k g_eXa hks hcb hP hD hS hl
        refine lv_iload hx hb dX12_become_67 (lv_at hl 0 rfl) ?_
        refine lv_aload_n hx hb dX12_become_69 rfl (lv_at hl 2 rfl) ?_
        refine va_get (D := (dC, dI)) (ci := 12) (v := .ref mS) (C := RX12) (T := TX12) (N := 40) hx hb hts in_X12 hown hK hP 0 rfl rfl 2 (by decide) (hts (.fieldLink RX12 13 "TextMenderModel" "sizes" "[I") (List.mem_of_getElem? (i := 3) rfl)) (fun _ h9 => h9) rfl dX12_become_70 ?_
        refine lv_iconst (v := 0) hx hb dX12_become_73 (by decide) ?_
        refine va_iald hx hb hK hP 1 0 rfl rfl (by unfold vp_in; decide) dX12_become_74 ?_
        refine lv_topi (fun x_9 ex_9 => ?_)
        have tx_9 : 0 ≤ x_9.toInt ∧ x_9.toInt ≤ 300 := rg_at g_f8 ex_9
        have hs_x_9 : x_9 = eS 0 := up0 ef_8 (by omega) ex_9
        have hi_x_9 : x_9.toInt = (eS 0).toInt := v_eq hs_x_9
        refine lv_icmp_ge (tgt := 104) hx hb dX12_become_75 (by decide) (fun c_10 => ?_) (fun c_10 => ?_)
        · have tc_10 : x_9.toInt ≤ k.toInt := v_le c_10
          refine lv_aload_n hx hb dX12_become_104 rfl (lv_at hl 2 rfl) ?_
          refine va_get (D := (dC, dI)) (ci := 12) (v := .ref mS) (C := RX12) (T := TX12) (N := 40) hx hb hts in_X12 hown hK hP 0 rfl rfl 2 (by decide) (hts (.fieldLink RX12 13 "TextMenderModel" "sizes" "[I") (List.mem_of_getElem? (i := 3) rfl)) (fun _ h9 => h9) rfl dX12_become_105 ?_
          refine lv_iconst (v := 0) hx hb dX12_become_108 (by decide) ?_
          refine lv_iload_n hx hb dX12_become_109 rfl (lv_at hl 4 rfl) ?_
          refine va_iast hx hb hK hP hD hS 1 0 rfl rfl (by unfold vp_in; decide) dX12_become_110 (fun H locs hP hD hS => ?_)
          have hP : va_P (dC, dI) vwCl [(oM, .inr (12, [.ref mT, .int zt, .ref mS, .ref mX, .int x_2, .int zf, .ref mL, .ref mB, .ref mD, .ref m1, .ref m2, .int zh, .ref mR, .int zr, .ref x1, .ref x2, .ref x3, .int zc, .ref mH, .int zy, .int za, .int zb, .int zs, .int zq, .int zw, .int ze, .ref mY, .int zn, .ref mE, .int zm, .int zl, .ref mW, .int zk, .ref mO, .int zd, .ref y1, .ref y2, .ref y3, .ref y4, .ref mZ])), (mS, .inl (cI, 21, .inl (upd f_8 (0 : Int32).toNatClampNeg n))), (mX, .inl (cI, 6300, .inl eXa)), (rw, .inl (cI, cw, .inl fr))] H := hP
          have hD : va_D A [(oM, .inr (12, [.ref mT, .int zt, .ref mS, .ref mX, .int x_2, .int zf, .ref mL, .ref mB, .ref mD, .ref m1, .ref m2, .int zh, .ref mR, .int zr, .ref x1, .ref x2, .ref x3, .int zc, .ref mH, .int zy, .int za, .int zb, .int zs, .int zq, .int zw, .int ze, .ref mY, .int zn, .ref mE, .int zm, .int zl, .ref mW, .int zk, .ref mO, .int zd, .ref y1, .ref y2, .ref y3, .ref y4, .ref mZ])), (mS, .inl (cI, 21, .inl (upd f_8 (0 : Int32).toNatClampNeg n))), (mX, .inl (cI, 6300, .inl eXa)), (rw, .inl (cI, cw, .inl fr))] := hD
          obtain ⟨f_11, ef_11⟩ : ∃ g : Nat → Int32, g = upd f_8 (0 : Int32).toNatClampNeg n := ⟨_, rfl⟩
          rw [← ef_11] at hP hD
          have g_f11 : rg 0 300 f_11 := rg_upd ef_11 g_f8 (by omega)
          refine lv_iconst (v := 0) hx hb dX12_become_111 (by decide) ?_
          refine lv_istore (lv' := [(4, .int 0), (3, .int x_6), (0, .ref oM), (1, .ref rw), (2, .int n)]) hx hb dX12_become_112 hl (by decide) rfl (fun ls hl => ?_)
          have LOOP_114 : ∀ (k_114 : Nat) (k2 : Int32) (eXb : Nat → Int32) (H : Heap) (locs : List Loc) (ls : Array Slot), (300 - k2.toInt : Int).toNat < k_114 → (0 ≤ k2.toInt ∧ k2.toInt ≤ 300) → (rg 0 65535 eXb) → (k2.toInt ≤ n.toInt) → (CPB 0 k2.toInt eXa eXb fr) → va_P (dC, dI) vwCl [(oM, .inr (12, [.ref mT, .int zt, .ref mS, .ref mX, .int x_2, .int zf, .ref mL, .ref mB, .ref mD, .ref m1, .ref m2, .int zh, .ref mR, .int zr, .ref x1, .ref x2, .ref x3, .int zc, .ref mH, .int zy, .int za, .int zb, .int zs, .int zq, .int zw, .int ze, .ref mY, .int zn, .ref mE, .int zm, .int zl, .ref mW, .int zk, .ref mO, .int zd, .ref y1, .ref y2, .ref y3, .ref y4, .ref mZ])), (mS, .inl (cI, 21, .inl f_11)), (mX, .inl (cI, 6300, .inl eXb)), (rw, .inl (cI, cw, .inl fr))] H → va_D A [(oM, .inr (12, [.ref mT, .int zt, .ref mS, .ref mX, .int x_2, .int zf, .ref mL, .ref mB, .ref mD, .ref m1, .ref m2, .int zh, .ref mR, .int zr, .ref x1, .ref x2, .ref x3, .int zc, .ref mH, .int zy, .int za, .int zb, .int zs, .int zq, .int zw, .int ze, .ref mY, .int zn, .ref mE, .int zm, .int zl, .ref mW, .int zk, .ref mO, .int zd, .ref y1, .ref y2, .ref y3, .ref y4, .ref mZ])), (mS, .inl (cI, 21, .inl f_11)), (mX, .inl (cI, 6300, .inl eXb)), (rw, .inl (cI, cw, .inl fr))] → va_S A s.heap H locs → lv_has ls 5 [(4, .int k2), (3, .int x_6), (0, .ref oM), (1, .ref rw), (2, .int n)] → W p l e (headSpec wsX12_become ({ frames := 0, cells := 0, slots := 0, locals := 0 } : Room)).room s m ([.ref oM, .ref rw, .int n] : List Value).toArray below meth c H locs 0 0 (MQ below QQ ([.ref oM, .ref rw, .int n] : List Value).toArray s 0 0 A) (F0 m 114 ls []) := by
            intro k_114
            induction k_114 with
            | zero =>
              intro k2 eXb H locs ls hm_114 g_k2 g_eXb hkn hcc hP hD hS hl
              exact absurd hm_114 (Nat.not_lt_zero _)
            | succ k_114 ih_114 =>
              intro k2 eXb H locs ls hm_114 g_k2 g_eXb hkn hcc hP hD hS hl
              refine lv_iload hx hb dX12_become_114 (lv_at hl 0 rfl) ?_
              refine lv_iload_n hx hb dX12_become_116 rfl (lv_at hl 4 rfl) ?_
              refine lv_icmp_ge (tgt := 137) hx hb dX12_become_117 (by decide) (fun c_12 => ?_) (fun c_12 => ?_)
              · have tc_12 : n.toInt ≤ k2.toInt := v_le c_12
                refine lv_aload_n hx hb dX12_become_137 rfl (lv_at hl 2 rfl) ?_
                refine lv_dup hx hb dX12_become_138 rfl ?_
                refine va_get (D := (dC, dI)) (ci := 12) (v := .int zs) (C := RX12) (T := TX12) (N := 40) hx hb hts in_X12 hown hK hP 0 rfl rfl 22 (by decide) (hts (.fieldLink RX12 148 "TextMenderModel" "state" "I") (List.mem_of_getElem? (i := 5) rfl)) (fun _ h9 => h9) rfl dX12_become_139 ?_
                refine lv_iconst (v := 1) hx hb dX12_become_142 (by decide) ?_
                refine lv_iadd hx hb dX12_become_143 ?_
                refine lv_topi (fun x_13 ex_13 => ?_)
                have tx_13 : x_13.toInt = zs.toInt + 1 := v_add ex_13 (by show -2147483648 ≤ zs.toInt + 1; omega) (by show zs.toInt + 1 < 2147483648; omega)
                refine va_put (D := (dC, dI)) (ci := 12) (v := .int x_13) (ty := .int) (C := RX12) (T := TX12) (N := 40) hx hb hts in_X12 tyX12 tyX12_ok nmX12 hown hK hP hD hS 0 rfl rfl 22 (by decide) (hts (.fieldLink RX12 148 "TextMenderModel" "state" "I") (List.mem_of_getElem? (i := 5) rfl)) (fun _ h9 => h9) rfl (by decide +kernel) rfl rfl (Nat.le_of_ble_eq_true rfl) dX12_become_144 (fun H locs hP hD hS => ?_)
                have hP : va_P (dC, dI) vwCl [(oM, .inr (12, [.ref mT, .int zt, .ref mS, .ref mX, .int x_2, .int zf, .ref mL, .ref mB, .ref mD, .ref m1, .ref m2, .int zh, .ref mR, .int zr, .ref x1, .ref x2, .ref x3, .int zc, .ref mH, .int zy, .int za, .int zb, .int x_13, .int zq, .int zw, .int ze, .ref mY, .int zn, .ref mE, .int zm, .int zl, .ref mW, .int zk, .ref mO, .int zd, .ref y1, .ref y2, .ref y3, .ref y4, .ref mZ])), (mS, .inl (cI, 21, .inl f_11)), (mX, .inl (cI, 6300, .inl eXb)), (rw, .inl (cI, cw, .inl fr))] H := hP
                have hD : va_D A [(oM, .inr (12, [.ref mT, .int zt, .ref mS, .ref mX, .int x_2, .int zf, .ref mL, .ref mB, .ref mD, .ref m1, .ref m2, .int zh, .ref mR, .int zr, .ref x1, .ref x2, .ref x3, .int zc, .ref mH, .int zy, .int za, .int zb, .int x_13, .int zq, .int zw, .int ze, .ref mY, .int zn, .ref mE, .int zm, .int zl, .ref mW, .int zk, .ref mO, .int zd, .ref y1, .ref y2, .ref y3, .ref y4, .ref mZ])), (mS, .inl (cI, 21, .inl f_11)), (mX, .inl (cI, 6300, .inl eXb)), (rw, .inl (cI, cw, .inl fr))] := hD
                have hP9 := hP.sub (ws' := [(oM, .inr (12, [.ref mT, .int zt, .ref mS, .ref mX, .int x_2, .int zf, .ref mL, .ref mB, .ref mD, .ref m1, .ref m2, .int zh, .ref mR, .int zr, .ref x1, .ref x2, .ref x3, .int zc, .ref mH, .int zy, .int za, .int zb, .int x_13, .int zq, .int zw, .int ze, .ref mY, .int zn, .ref mE, .int zm, .int zl, .ref mW, .int zk, .ref mO, .int zd, .ref y1, .ref y2, .ref y3, .ref y4, .ref mZ])), (mS, .inl (cI, 21, .inl f_11)), (mX, .inl (cI, 6300, .inl eXb)), (rw, .inl (cI, cw, .inl fr))]) [0, 1, 2, 3] rfl
                have hD9 := hD.sub (ws' := [(oM, .inr (12, [.ref mT, .int zt, .ref mS, .ref mX, .int x_2, .int zf, .ref mL, .ref mB, .ref mD, .ref m1, .ref m2, .int zh, .ref mR, .int zr, .ref x1, .ref x2, .ref x3, .int zc, .ref mH, .int zy, .int za, .int zb, .int x_13, .int zq, .int zw, .int ze, .ref mY, .int zn, .ref mE, .int zm, .int zl, .ref mW, .int zk, .ref mO, .int zd, .ref y1, .ref y2, .ref y3, .ref y4, .ref mZ])), (mS, .inl (cI, 21, .inl f_11)), (mX, .inl (cI, 6300, .inl eXb)), (rw, .inl (cI, cw, .inl fr))]) [0, 1, 2, 3] (by decide) rfl
                rw [hQQ]
                exact W.vret hx hb hr (fun t ht hW => ⟨⟨(), rfl, trivial, ⟨x_2, zf, x_13, f_11, eXb, by rw [ht]; exact hP9, hD9, by omega, by omega, by omega, g_f11, g_eXb, by show x_13.toInt = zs.toInt + 1; omega, bR_of (t := x_6) (by omega) (by omega) (by omega) ex_7 ef_8 ef_11 hcb (by omega) hcc (by omega)⟩⟩, hS.F ht⟩) hS.2.2 dX12_become_147
              · have tc_12 : k2.toInt < n.toInt := v_nle c_12
                refine lv_aload_n hx hb dX12_become_120 rfl (lv_at hl 2 rfl) ?_
                refine va_get (D := (dC, dI)) (ci := 12) (v := .ref mX) (C := RX12) (T := TX12) (N := 40) hx hb hts in_X12 hown hK hP 0 rfl rfl 3 (by decide) (hts (.fieldLink RX12 16 "TextMenderModel" "texts" "[I") (List.mem_of_getElem? (i := 4) rfl)) (fun _ h9 => h9) rfl dX12_become_121 ?_
                refine lv_iload hx hb dX12_become_124 (lv_at hl 0 rfl) ?_
                refine lv_aload_n hx hb dX12_become_126 rfl (lv_at hl 3 rfl) ?_
                refine lv_iload hx hb dX12_become_127 (lv_at hl 0 rfl) ?_
                refine va_iald hx hb hK hP 3 0 rfl rfl (v_in (by omega)) dX12_become_129 ?_
                refine lv_topi (fun x_14 ex_14 => ?_)
                have tp_x_14 := prg_at hrow ex_14 (by omega) (by omega)
                refine va_iast hx hb hK hP hD hS 2 0 rfl rfl (v_in (by omega)) dX12_become_130 (fun H locs hP hD hS => ?_)
                have hP : va_P (dC, dI) vwCl [(oM, .inr (12, [.ref mT, .int zt, .ref mS, .ref mX, .int x_2, .int zf, .ref mL, .ref mB, .ref mD, .ref m1, .ref m2, .int zh, .ref mR, .int zr, .ref x1, .ref x2, .ref x3, .int zc, .ref mH, .int zy, .int za, .int zb, .int zs, .int zq, .int zw, .int ze, .ref mY, .int zn, .ref mE, .int zm, .int zl, .ref mW, .int zk, .ref mO, .int zd, .ref y1, .ref y2, .ref y3, .ref y4, .ref mZ])), (mS, .inl (cI, 21, .inl f_11)), (mX, .inl (cI, 6300, .inl (upd eXb (k2 : Int32).toNatClampNeg x_14))), (rw, .inl (cI, cw, .inl fr))] H := hP
                have hD : va_D A [(oM, .inr (12, [.ref mT, .int zt, .ref mS, .ref mX, .int x_2, .int zf, .ref mL, .ref mB, .ref mD, .ref m1, .ref m2, .int zh, .ref mR, .int zr, .ref x1, .ref x2, .ref x3, .int zc, .ref mH, .int zy, .int za, .int zb, .int zs, .int zq, .int zw, .int ze, .ref mY, .int zn, .ref mE, .int zm, .int zl, .ref mW, .int zk, .ref mO, .int zd, .ref y1, .ref y2, .ref y3, .ref y4, .ref mZ])), (mS, .inl (cI, 21, .inl f_11)), (mX, .inl (cI, 6300, .inl (upd eXb (k2 : Int32).toNatClampNeg x_14))), (rw, .inl (cI, cw, .inl fr))] := hD
                obtain ⟨f_15, ef_15⟩ : ∃ g : Nat → Int32, g = upd eXb (k2 : Int32).toNatClampNeg x_14 := ⟨_, rfl⟩
                rw [← ef_15] at hP hD
                have g_f15 : rg 0 65535 f_15 := rg_upd ef_15 g_eXb (by omega)
                obtain ⟨x_16, ex_16⟩ : ∃ y : Int32, y = k2 + 1 := ⟨_, rfl⟩
                have tx_16 : x_16.toInt = k2.toInt + 1 := v_add ex_16 (by show -2147483648 ≤ k2.toInt + 1; omega) (by show k2.toInt + 1 < 2147483648; omega)
                refine lv_iinc (v := x_16) (lv' := [(4, .int x_16), (3, .int x_6), (0, .ref oM), (1, .ref rw), (2, .int n)]) hx hb dX12_become_131 hl (k := 0) rfl (by rw [ex_16]; rfl) (by decide) rfl (fun ls hl => ?_)
                refine lv_goto (tgt := 114) hx hb dX12_become_134 (by decide) ?_
                exact ih_114 x_16 f_15 _ _ _ (by have hm9 := hm_114; show ((300 - x_16.toInt : Int)).toNat < k_114; omega) (by show 0 ≤ x_16.toInt ∧ x_16.toInt ≤ 300; omega) (g_f15) (by show x_16.toInt ≤ n.toInt; omega) (CPB_s hcc (by omega) (by omega) ex_14 ef_15 (by omega) (by omega)) hP hD hS (lv_sub hl [0, 1, 2, 3, 4] rfl)
          exact LOOP_114 _ 0 eXa _ _ _ (Nat.lt_succ_self _) (by decide) (g_eXa) (by show 0 ≤ n.toInt; omega) (CPB_0 (by decide)) hP hD hS (lv_sub hl [0, 1, 2, 3, 4] rfl)
        · have tc_10 : k.toInt < x_9.toInt := v_nle c_10
          refine lv_aload_n hx hb dX12_become_78 rfl (lv_at hl 2 rfl) ?_
          refine va_get (D := (dC, dI)) (ci := 12) (v := .ref mX) (C := RX12) (T := TX12) (N := 40) hx hb hts in_X12 hown hK hP 0 rfl rfl 3 (by decide) (hts (.fieldLink RX12 16 "TextMenderModel" "texts" "[I") (List.mem_of_getElem? (i := 4) rfl)) (fun _ h9 => h9) rfl dX12_become_79 ?_
          refine lv_sipush (v := 300) hx hb dX12_become_82 (by decide) ?_
          refine lv_iload_n hx hb dX12_become_85 rfl (lv_at hl 1 rfl) ?_
          refine lv_imul hx hb dX12_become_86 ?_
          refine lv_topi (fun x_17 ex_17 => ?_)
          have tx_17 : x_17.toInt = 300 * x_6.toInt := v_mul ex_17 (by show -2147483648 ≤ 300 * x_6.toInt; omega) (by show 300 * x_6.toInt < 2147483648; omega)
          refine lv_iload hx hb dX12_become_87 (lv_at hl 0 rfl) ?_
          refine lv_iadd hx hb dX12_become_89 ?_
          refine lv_topi (fun x_18 ex_18 => ?_)
          have tx_18 : x_18.toInt = x_17.toInt + k.toInt := v_add ex_18 (by show -2147483648 ≤ x_17.toInt + k.toInt; omega) (by show x_17.toInt + k.toInt < 2147483648; omega)
          refine lv_aload_n hx hb dX12_become_90 rfl (lv_at hl 2 rfl) ?_
          refine va_get (D := (dC, dI)) (ci := 12) (v := .ref mX) (C := RX12) (T := TX12) (N := 40) hx hb hts in_X12 hown hK hP 0 rfl rfl 3 (by decide) (hts (.fieldLink RX12 16 "TextMenderModel" "texts" "[I") (List.mem_of_getElem? (i := 4) rfl)) (fun _ h9 => h9) rfl dX12_become_91 ?_
          refine lv_iload hx hb dX12_become_94 (lv_at hl 0 rfl) ?_
          refine va_iald hx hb hK hP 2 0 rfl rfl (v_in (by omega)) dX12_become_96 ?_
          refine lv_topi (fun x_19 ex_19 => ?_)
          have tx_19 : 0 ≤ x_19.toInt ∧ x_19.toInt ≤ 65535 := rg_at g_eXa ex_19
          refine va_iast hx hb hK hP hD hS 2 0 rfl rfl (v_in (by omega)) dX12_become_97 (fun H locs hP hD hS => ?_)
          have hP : va_P (dC, dI) vwCl [(oM, .inr (12, [.ref mT, .int zt, .ref mS, .ref mX, .int x_2, .int zf, .ref mL, .ref mB, .ref mD, .ref m1, .ref m2, .int zh, .ref mR, .int zr, .ref x1, .ref x2, .ref x3, .int zc, .ref mH, .int zy, .int za, .int zb, .int zs, .int zq, .int zw, .int ze, .ref mY, .int zn, .ref mE, .int zm, .int zl, .ref mW, .int zk, .ref mO, .int zd, .ref y1, .ref y2, .ref y3, .ref y4, .ref mZ])), (mS, .inl (cI, 21, .inl f_8)), (mX, .inl (cI, 6300, .inl (upd eXa (x_18 : Int32).toNatClampNeg x_19))), (rw, .inl (cI, cw, .inl fr))] H := hP
          have hD : va_D A [(oM, .inr (12, [.ref mT, .int zt, .ref mS, .ref mX, .int x_2, .int zf, .ref mL, .ref mB, .ref mD, .ref m1, .ref m2, .int zh, .ref mR, .int zr, .ref x1, .ref x2, .ref x3, .int zc, .ref mH, .int zy, .int za, .int zb, .int zs, .int zq, .int zw, .int ze, .ref mY, .int zn, .ref mE, .int zm, .int zl, .ref mW, .int zk, .ref mO, .int zd, .ref y1, .ref y2, .ref y3, .ref y4, .ref mZ])), (mS, .inl (cI, 21, .inl f_8)), (mX, .inl (cI, 6300, .inl (upd eXa (x_18 : Int32).toNatClampNeg x_19))), (rw, .inl (cI, cw, .inl fr))] := hD
          obtain ⟨f_20, ef_20⟩ : ∃ g : Nat → Int32, g = upd eXa (x_18 : Int32).toNatClampNeg x_19 := ⟨_, rfl⟩
          rw [← ef_20] at hP hD
          have g_f20 : rg 0 65535 f_20 := rg_upd ef_20 g_eXa (by omega)
          obtain ⟨x_21, ex_21⟩ : ∃ y : Int32, y = k + 1 := ⟨_, rfl⟩
          have tx_21 : x_21.toInt = k.toInt + 1 := v_add ex_21 (by show -2147483648 ≤ k.toInt + 1; omega) (by show k.toInt + 1 < 2147483648; omega)
          refine lv_iinc (v := x_21) (lv' := [(4, .int x_21), (3, .int x_6), (0, .ref oM), (1, .ref rw), (2, .int n)]) hx hb dX12_become_98 hl (k := 0) rfl (by rw [ex_21]; rfl) (by decide) rfl (fun ls hl => ?_)
          refine lv_goto (tgt := 67) hx hb dX12_become_101 (by decide) ?_
          exact ih_67 x_21 f_20 _ _ _ (by have hm9 := hm_67; show ((300 - x_21.toInt : Int)).toNat < k_67; omega) (by show 0 ≤ x_21.toInt ∧ x_21.toInt ≤ 300; omega) (g_f20) (by show x_21.toInt ≤ (eS 0).toInt; omega) (CPB_s hcb (by omega) (by omega) (ex_19.trans (hcb.2 _ (by have c9 := v_clamp (x := k) (by omega); omega))) ef_20 (by omega) (by omega)) hP hD hS (lv_sub hl [0, 1, 2, 3, 4] rfl)
    exact LOOP_67 _ 0 eX _ _ _ (Nat.lt_succ_self _) (by decide) (g_eX) (by show 0 ≤ (eS 0).toInt; omega) (CPB_0 (by decide)) hP hD hS (lv_sub hl [0, 1, 2, 3, 4] rfl)
  · have tc_1 : zp.toInt = 20 := v_eq c_1
    refine lv_aload_n hx hb dX12_become_9 rfl (lv_at hl 0 rfl) ?_
    refine lv_aload_n hx hb dX12_become_10 rfl (lv_at hl 0 rfl) ?_
    refine va_get (D := (dC, dI)) (ci := 12) (v := .int zf) (C := RX12) (T := TX12) (N := 40) hx hb hts in_X12 hown hK hP 0 rfl rfl 5 (by decide) (hts (.fieldLink RX12 145 "TextMenderModel" "firstPast" "I") (List.mem_of_getElem? (i := 2) rfl)) (fun _ h9 => h9) rfl dX12_become_11 ?_
    refine lv_iconst (v := 1) hx hb dX12_become_14 (by decide) ?_
    refine lv_iadd hx hb dX12_become_15 ?_
    refine lv_topi (fun x_22 ex_22 => ?_)
    have tx_22 : x_22.toInt = zf.toInt + 1 := v_add ex_22 (by show -2147483648 ≤ zf.toInt + 1; omega) (by show zf.toInt + 1 < 2147483648; omega)
    refine lv_bipush (v := 20) hx hb dX12_become_16 (by decide) ?_
    refine lv_irem hx hb dX12_become_18 (by decide) ?_
    refine lv_topi (fun x_23 ex_23 => ?_)
    have tx_23 : x_23.toInt = x_22.toInt % 20 := v_rem ex_23 (by omega) (by decide)
    refine va_put (D := (dC, dI)) (ci := 12) (v := .int x_23) (ty := .int) (C := RX12) (T := TX12) (N := 40) hx hb hts in_X12 tyX12 tyX12_ok nmX12 hown hK hP hD hS 0 rfl rfl 5 (by decide) (hts (.fieldLink RX12 145 "TextMenderModel" "firstPast" "I") (List.mem_of_getElem? (i := 2) rfl)) (fun _ h9 => h9) rfl (by decide +kernel) rfl rfl (Nat.le_of_ble_eq_true rfl) dX12_become_19 (fun H locs hP hD hS => ?_)
    have hP : va_P (dC, dI) vwCl [(oM, .inr (12, [.ref mT, .int zt, .ref mS, .ref mX, .int zp, .int x_23, .ref mL, .ref mB, .ref mD, .ref m1, .ref m2, .int zh, .ref mR, .int zr, .ref x1, .ref x2, .ref x3, .int zc, .ref mH, .int zy, .int za, .int zb, .int zs, .int zq, .int zw, .int ze, .ref mY, .int zn, .ref mE, .int zm, .int zl, .ref mW, .int zk, .ref mO, .int zd, .ref y1, .ref y2, .ref y3, .ref y4, .ref mZ])), (mS, .inl (cI, 21, .inl eS)), (mX, .inl (cI, 6300, .inl eX)), (rw, .inl (cI, cw, .inl fr))] H := hP
    have hD : va_D A [(oM, .inr (12, [.ref mT, .int zt, .ref mS, .ref mX, .int zp, .int x_23, .ref mL, .ref mB, .ref mD, .ref m1, .ref m2, .int zh, .ref mR, .int zr, .ref x1, .ref x2, .ref x3, .int zc, .ref mH, .int zy, .int za, .int zb, .int zs, .int zq, .int zw, .int ze, .ref mY, .int zn, .ref mE, .int zm, .int zl, .ref mW, .int zk, .ref mO, .int zd, .ref y1, .ref y2, .ref y3, .ref y4, .ref mZ])), (mS, .inl (cI, 21, .inl eS)), (mX, .inl (cI, 6300, .inl eX)), (rw, .inl (cI, cw, .inl fr))] := hD
    refine lv_goto (tgt := 35) hx hb dX12_become_22 (by decide) ?_
    refine lv_iconst (v := 1) hx hb dX12_become_35 (by decide) ?_
    refine lv_aload_n hx hb dX12_become_36 rfl (lv_at hl 0 rfl) ?_
    refine va_get (D := (dC, dI)) (ci := 12) (v := .int x_23) (C := RX12) (T := TX12) (N := 40) hx hb hts in_X12 hown hK hP 0 rfl rfl 5 (by decide) (hts (.fieldLink RX12 145 "TextMenderModel" "firstPast" "I") (List.mem_of_getElem? (i := 2) rfl)) (fun _ h9 => h9) rfl dX12_become_37 ?_
    refine lv_aload_n hx hb dX12_become_40 rfl (lv_at hl 0 rfl) ?_
    refine va_get (D := (dC, dI)) (ci := 12) (v := .int zp) (C := RX12) (T := TX12) (N := 40) hx hb hts in_X12 hown hK hP 0 rfl rfl 4 (by decide) (hts (.fieldLink RX12 142 "TextMenderModel" "past" "I") (List.mem_of_getElem? (i := 1) rfl)) (fun _ h9 => h9) rfl dX12_become_41 ?_
    refine lv_iadd hx hb dX12_become_44 ?_
    refine lv_topi (fun x_24 ex_24 => ?_)
    have tx_24 : x_24.toInt = x_23.toInt + zp.toInt := v_add ex_24 (by show -2147483648 ≤ x_23.toInt + zp.toInt; omega) (by show x_23.toInt + zp.toInt < 2147483648; omega)
    refine lv_iconst (v := 1) hx hb dX12_become_45 (by decide) ?_
    refine lv_isub hx hb dX12_become_46 ?_
    refine lv_topi (fun x_25 ex_25 => ?_)
    have tx_25 : x_25.toInt = x_24.toInt - 1 := v_sub ex_25 (by show -2147483648 ≤ x_24.toInt - 1; omega) (by show x_24.toInt - 1 < 2147483648; omega)
    refine lv_bipush (v := 20) hx hb dX12_become_47 (by decide) ?_
    refine lv_irem hx hb dX12_become_49 (by decide) ?_
    refine lv_topi (fun x_26 ex_26 => ?_)
    have tx_26 : x_26.toInt = x_25.toInt % 20 := v_rem ex_26 (by omega) (by decide)
    refine lv_iadd hx hb dX12_become_50 ?_
    refine lv_topi (fun x_27 ex_27 => ?_)
    have tx_27 : x_27.toInt = 1 + x_26.toInt := v_add ex_27 (by show -2147483648 ≤ 1 + x_26.toInt; omega) (by show 1 + x_26.toInt < 2147483648; omega)
    refine lv_istore_n (lv' := [(3, .int x_27), (0, .ref oM), (1, .ref rw), (2, .int n)]) hx hb dX12_become_51 rfl hl (by decide) rfl (fun ls hl => ?_)
    refine lv_aload_n hx hb dX12_become_52 rfl (lv_at hl 1 rfl) ?_
    refine va_get (D := (dC, dI)) (ci := 12) (v := .ref mS) (C := RX12) (T := TX12) (N := 40) hx hb hts in_X12 hown hK hP 0 rfl rfl 2 (by decide) (hts (.fieldLink RX12 13 "TextMenderModel" "sizes" "[I") (List.mem_of_getElem? (i := 3) rfl)) (fun _ h9 => h9) rfl dX12_become_53 ?_
    refine lv_iload_n hx hb dX12_become_56 rfl (lv_at hl 0 rfl) ?_
    refine lv_aload_n hx hb dX12_become_57 rfl (lv_at hl 1 rfl) ?_
    refine va_get (D := (dC, dI)) (ci := 12) (v := .ref mS) (C := RX12) (T := TX12) (N := 40) hx hb hts in_X12 hown hK hP 0 rfl rfl 2 (by decide) (hts (.fieldLink RX12 13 "TextMenderModel" "sizes" "[I") (List.mem_of_getElem? (i := 3) rfl)) (fun _ h9 => h9) rfl dX12_become_58 ?_
    refine lv_iconst (v := 0) hx hb dX12_become_61 (by decide) ?_
    refine va_iald hx hb hK hP 1 0 rfl rfl (by unfold vp_in; decide) dX12_become_62 ?_
    refine lv_topi (fun x_28 ex_28 => ?_)
    have tx_28 : 0 ≤ x_28.toInt ∧ x_28.toInt ≤ 300 := rg_at g_eS ex_28
    refine va_iast hx hb hK hP hD hS 1 0 rfl rfl (v_in (by omega)) dX12_become_63 (fun H locs hP hD hS => ?_)
    have hP : va_P (dC, dI) vwCl [(oM, .inr (12, [.ref mT, .int zt, .ref mS, .ref mX, .int zp, .int x_23, .ref mL, .ref mB, .ref mD, .ref m1, .ref m2, .int zh, .ref mR, .int zr, .ref x1, .ref x2, .ref x3, .int zc, .ref mH, .int zy, .int za, .int zb, .int zs, .int zq, .int zw, .int ze, .ref mY, .int zn, .ref mE, .int zm, .int zl, .ref mW, .int zk, .ref mO, .int zd, .ref y1, .ref y2, .ref y3, .ref y4, .ref mZ])), (mS, .inl (cI, 21, .inl (upd eS (x_27 : Int32).toNatClampNeg x_28))), (mX, .inl (cI, 6300, .inl eX)), (rw, .inl (cI, cw, .inl fr))] H := hP
    have hD : va_D A [(oM, .inr (12, [.ref mT, .int zt, .ref mS, .ref mX, .int zp, .int x_23, .ref mL, .ref mB, .ref mD, .ref m1, .ref m2, .int zh, .ref mR, .int zr, .ref x1, .ref x2, .ref x3, .int zc, .ref mH, .int zy, .int za, .int zb, .int zs, .int zq, .int zw, .int ze, .ref mY, .int zn, .ref mE, .int zm, .int zl, .ref mW, .int zk, .ref mO, .int zd, .ref y1, .ref y2, .ref y3, .ref y4, .ref mZ])), (mS, .inl (cI, 21, .inl (upd eS (x_27 : Int32).toNatClampNeg x_28))), (mX, .inl (cI, 6300, .inl eX)), (rw, .inl (cI, cw, .inl fr))] := hD
    obtain ⟨f_29, ef_29⟩ : ∃ g : Nat → Int32, g = upd eS (x_27 : Int32).toNatClampNeg x_28 := ⟨_, rfl⟩
    rw [← ef_29] at hP hD
    have g_f29 : rg 0 300 f_29 := rg_upd ef_29 g_eS (by omega)
    refine lv_iconst (v := 0) hx hb dX12_become_64 (by decide) ?_
    refine lv_istore (lv' := [(4, .int 0), (3, .int x_27), (0, .ref oM), (1, .ref rw), (2, .int n)]) hx hb dX12_become_65 hl (by decide) rfl (fun ls hl => ?_)
    have LOOP_67 : ∀ (k_67 : Nat) (k : Int32) (eXa : Nat → Int32) (H : Heap) (locs : List Loc) (ls : Array Slot), (300 - k.toInt : Int).toNat < k_67 → (0 ≤ k.toInt ∧ k.toInt ≤ 300) → (rg 0 65535 eXa) → (k.toInt ≤ (eS 0).toInt) → (CPB (300 * x_27.toInt) k.toInt eX eXa eX) → va_P (dC, dI) vwCl [(oM, .inr (12, [.ref mT, .int zt, .ref mS, .ref mX, .int zp, .int x_23, .ref mL, .ref mB, .ref mD, .ref m1, .ref m2, .int zh, .ref mR, .int zr, .ref x1, .ref x2, .ref x3, .int zc, .ref mH, .int zy, .int za, .int zb, .int zs, .int zq, .int zw, .int ze, .ref mY, .int zn, .ref mE, .int zm, .int zl, .ref mW, .int zk, .ref mO, .int zd, .ref y1, .ref y2, .ref y3, .ref y4, .ref mZ])), (mS, .inl (cI, 21, .inl f_29)), (mX, .inl (cI, 6300, .inl eXa)), (rw, .inl (cI, cw, .inl fr))] H → va_D A [(oM, .inr (12, [.ref mT, .int zt, .ref mS, .ref mX, .int zp, .int x_23, .ref mL, .ref mB, .ref mD, .ref m1, .ref m2, .int zh, .ref mR, .int zr, .ref x1, .ref x2, .ref x3, .int zc, .ref mH, .int zy, .int za, .int zb, .int zs, .int zq, .int zw, .int ze, .ref mY, .int zn, .ref mE, .int zm, .int zl, .ref mW, .int zk, .ref mO, .int zd, .ref y1, .ref y2, .ref y3, .ref y4, .ref mZ])), (mS, .inl (cI, 21, .inl f_29)), (mX, .inl (cI, 6300, .inl eXa)), (rw, .inl (cI, cw, .inl fr))] → va_S A s.heap H locs → lv_has ls 5 [(4, .int k), (3, .int x_27), (0, .ref oM), (1, .ref rw), (2, .int n)] → W p l e (headSpec wsX12_become ({ frames := 0, cells := 0, slots := 0, locals := 0 } : Room)).room s m ([.ref oM, .ref rw, .int n] : List Value).toArray below meth c H locs 0 0 (MQ below QQ ([.ref oM, .ref rw, .int n] : List Value).toArray s 0 0 A) (F0 m 67 ls []) := by
      intro k_67
      induction k_67 with
      | zero =>
        intro k eXa H locs ls hm_67 g_k g_eXa hks hcb hP hD hS hl
        exact absurd hm_67 (Nat.not_lt_zero _)
      | succ k_67 ih_67 =>
        intro k eXa H locs ls hm_67 g_k g_eXa hks hcb hP hD hS hl
        refine lv_iload hx hb dX12_become_67 (lv_at hl 0 rfl) ?_
        refine lv_aload_n hx hb dX12_become_69 rfl (lv_at hl 2 rfl) ?_
        refine va_get (D := (dC, dI)) (ci := 12) (v := .ref mS) (C := RX12) (T := TX12) (N := 40) hx hb hts in_X12 hown hK hP 0 rfl rfl 2 (by decide) (hts (.fieldLink RX12 13 "TextMenderModel" "sizes" "[I") (List.mem_of_getElem? (i := 3) rfl)) (fun _ h9 => h9) rfl dX12_become_70 ?_
        refine lv_iconst (v := 0) hx hb dX12_become_73 (by decide) ?_
        refine va_iald hx hb hK hP 1 0 rfl rfl (by unfold vp_in; decide) dX12_become_74 ?_
        refine lv_topi (fun x_30 ex_30 => ?_)
        have tx_30 : 0 ≤ x_30.toInt ∧ x_30.toInt ≤ 300 := rg_at g_f29 ex_30
        have hs_x_30 : x_30 = eS 0 := up0 ef_29 (by omega) ex_30
        have hi_x_30 : x_30.toInt = (eS 0).toInt := v_eq hs_x_30
        refine lv_icmp_ge (tgt := 104) hx hb dX12_become_75 (by decide) (fun c_31 => ?_) (fun c_31 => ?_)
        · have tc_31 : x_30.toInt ≤ k.toInt := v_le c_31
          refine lv_aload_n hx hb dX12_become_104 rfl (lv_at hl 2 rfl) ?_
          refine va_get (D := (dC, dI)) (ci := 12) (v := .ref mS) (C := RX12) (T := TX12) (N := 40) hx hb hts in_X12 hown hK hP 0 rfl rfl 2 (by decide) (hts (.fieldLink RX12 13 "TextMenderModel" "sizes" "[I") (List.mem_of_getElem? (i := 3) rfl)) (fun _ h9 => h9) rfl dX12_become_105 ?_
          refine lv_iconst (v := 0) hx hb dX12_become_108 (by decide) ?_
          refine lv_iload_n hx hb dX12_become_109 rfl (lv_at hl 4 rfl) ?_
          refine va_iast hx hb hK hP hD hS 1 0 rfl rfl (by unfold vp_in; decide) dX12_become_110 (fun H locs hP hD hS => ?_)
          have hP : va_P (dC, dI) vwCl [(oM, .inr (12, [.ref mT, .int zt, .ref mS, .ref mX, .int zp, .int x_23, .ref mL, .ref mB, .ref mD, .ref m1, .ref m2, .int zh, .ref mR, .int zr, .ref x1, .ref x2, .ref x3, .int zc, .ref mH, .int zy, .int za, .int zb, .int zs, .int zq, .int zw, .int ze, .ref mY, .int zn, .ref mE, .int zm, .int zl, .ref mW, .int zk, .ref mO, .int zd, .ref y1, .ref y2, .ref y3, .ref y4, .ref mZ])), (mS, .inl (cI, 21, .inl (upd f_29 (0 : Int32).toNatClampNeg n))), (mX, .inl (cI, 6300, .inl eXa)), (rw, .inl (cI, cw, .inl fr))] H := hP
          have hD : va_D A [(oM, .inr (12, [.ref mT, .int zt, .ref mS, .ref mX, .int zp, .int x_23, .ref mL, .ref mB, .ref mD, .ref m1, .ref m2, .int zh, .ref mR, .int zr, .ref x1, .ref x2, .ref x3, .int zc, .ref mH, .int zy, .int za, .int zb, .int zs, .int zq, .int zw, .int ze, .ref mY, .int zn, .ref mE, .int zm, .int zl, .ref mW, .int zk, .ref mO, .int zd, .ref y1, .ref y2, .ref y3, .ref y4, .ref mZ])), (mS, .inl (cI, 21, .inl (upd f_29 (0 : Int32).toNatClampNeg n))), (mX, .inl (cI, 6300, .inl eXa)), (rw, .inl (cI, cw, .inl fr))] := hD
          obtain ⟨f_32, ef_32⟩ : ∃ g : Nat → Int32, g = upd f_29 (0 : Int32).toNatClampNeg n := ⟨_, rfl⟩
          rw [← ef_32] at hP hD
          have g_f32 : rg 0 300 f_32 := rg_upd ef_32 g_f29 (by omega)
          refine lv_iconst (v := 0) hx hb dX12_become_111 (by decide) ?_
          refine lv_istore (lv' := [(4, .int 0), (3, .int x_27), (0, .ref oM), (1, .ref rw), (2, .int n)]) hx hb dX12_become_112 hl (by decide) rfl (fun ls hl => ?_)
          have LOOP_114 : ∀ (k_114 : Nat) (k2 : Int32) (eXb : Nat → Int32) (H : Heap) (locs : List Loc) (ls : Array Slot), (300 - k2.toInt : Int).toNat < k_114 → (0 ≤ k2.toInt ∧ k2.toInt ≤ 300) → (rg 0 65535 eXb) → (k2.toInt ≤ n.toInt) → (CPB 0 k2.toInt eXa eXb fr) → va_P (dC, dI) vwCl [(oM, .inr (12, [.ref mT, .int zt, .ref mS, .ref mX, .int zp, .int x_23, .ref mL, .ref mB, .ref mD, .ref m1, .ref m2, .int zh, .ref mR, .int zr, .ref x1, .ref x2, .ref x3, .int zc, .ref mH, .int zy, .int za, .int zb, .int zs, .int zq, .int zw, .int ze, .ref mY, .int zn, .ref mE, .int zm, .int zl, .ref mW, .int zk, .ref mO, .int zd, .ref y1, .ref y2, .ref y3, .ref y4, .ref mZ])), (mS, .inl (cI, 21, .inl f_32)), (mX, .inl (cI, 6300, .inl eXb)), (rw, .inl (cI, cw, .inl fr))] H → va_D A [(oM, .inr (12, [.ref mT, .int zt, .ref mS, .ref mX, .int zp, .int x_23, .ref mL, .ref mB, .ref mD, .ref m1, .ref m2, .int zh, .ref mR, .int zr, .ref x1, .ref x2, .ref x3, .int zc, .ref mH, .int zy, .int za, .int zb, .int zs, .int zq, .int zw, .int ze, .ref mY, .int zn, .ref mE, .int zm, .int zl, .ref mW, .int zk, .ref mO, .int zd, .ref y1, .ref y2, .ref y3, .ref y4, .ref mZ])), (mS, .inl (cI, 21, .inl f_32)), (mX, .inl (cI, 6300, .inl eXb)), (rw, .inl (cI, cw, .inl fr))] → va_S A s.heap H locs → lv_has ls 5 [(4, .int k2), (3, .int x_27), (0, .ref oM), (1, .ref rw), (2, .int n)] → W p l e (headSpec wsX12_become ({ frames := 0, cells := 0, slots := 0, locals := 0 } : Room)).room s m ([.ref oM, .ref rw, .int n] : List Value).toArray below meth c H locs 0 0 (MQ below QQ ([.ref oM, .ref rw, .int n] : List Value).toArray s 0 0 A) (F0 m 114 ls []) := by
            intro k_114
            induction k_114 with
            | zero =>
              intro k2 eXb H locs ls hm_114 g_k2 g_eXb hkn hcc hP hD hS hl
              exact absurd hm_114 (Nat.not_lt_zero _)
            | succ k_114 ih_114 =>
              intro k2 eXb H locs ls hm_114 g_k2 g_eXb hkn hcc hP hD hS hl
              refine lv_iload hx hb dX12_become_114 (lv_at hl 0 rfl) ?_
              refine lv_iload_n hx hb dX12_become_116 rfl (lv_at hl 4 rfl) ?_
              refine lv_icmp_ge (tgt := 137) hx hb dX12_become_117 (by decide) (fun c_33 => ?_) (fun c_33 => ?_)
              · have tc_33 : n.toInt ≤ k2.toInt := v_le c_33
                refine lv_aload_n hx hb dX12_become_137 rfl (lv_at hl 2 rfl) ?_
                refine lv_dup hx hb dX12_become_138 rfl ?_
                refine va_get (D := (dC, dI)) (ci := 12) (v := .int zs) (C := RX12) (T := TX12) (N := 40) hx hb hts in_X12 hown hK hP 0 rfl rfl 22 (by decide) (hts (.fieldLink RX12 148 "TextMenderModel" "state" "I") (List.mem_of_getElem? (i := 5) rfl)) (fun _ h9 => h9) rfl dX12_become_139 ?_
                refine lv_iconst (v := 1) hx hb dX12_become_142 (by decide) ?_
                refine lv_iadd hx hb dX12_become_143 ?_
                refine lv_topi (fun x_34 ex_34 => ?_)
                have tx_34 : x_34.toInt = zs.toInt + 1 := v_add ex_34 (by show -2147483648 ≤ zs.toInt + 1; omega) (by show zs.toInt + 1 < 2147483648; omega)
                refine va_put (D := (dC, dI)) (ci := 12) (v := .int x_34) (ty := .int) (C := RX12) (T := TX12) (N := 40) hx hb hts in_X12 tyX12 tyX12_ok nmX12 hown hK hP hD hS 0 rfl rfl 22 (by decide) (hts (.fieldLink RX12 148 "TextMenderModel" "state" "I") (List.mem_of_getElem? (i := 5) rfl)) (fun _ h9 => h9) rfl (by decide +kernel) rfl rfl (Nat.le_of_ble_eq_true rfl) dX12_become_144 (fun H locs hP hD hS => ?_)
                have hP : va_P (dC, dI) vwCl [(oM, .inr (12, [.ref mT, .int zt, .ref mS, .ref mX, .int zp, .int x_23, .ref mL, .ref mB, .ref mD, .ref m1, .ref m2, .int zh, .ref mR, .int zr, .ref x1, .ref x2, .ref x3, .int zc, .ref mH, .int zy, .int za, .int zb, .int x_34, .int zq, .int zw, .int ze, .ref mY, .int zn, .ref mE, .int zm, .int zl, .ref mW, .int zk, .ref mO, .int zd, .ref y1, .ref y2, .ref y3, .ref y4, .ref mZ])), (mS, .inl (cI, 21, .inl f_32)), (mX, .inl (cI, 6300, .inl eXb)), (rw, .inl (cI, cw, .inl fr))] H := hP
                have hD : va_D A [(oM, .inr (12, [.ref mT, .int zt, .ref mS, .ref mX, .int zp, .int x_23, .ref mL, .ref mB, .ref mD, .ref m1, .ref m2, .int zh, .ref mR, .int zr, .ref x1, .ref x2, .ref x3, .int zc, .ref mH, .int zy, .int za, .int zb, .int x_34, .int zq, .int zw, .int ze, .ref mY, .int zn, .ref mE, .int zm, .int zl, .ref mW, .int zk, .ref mO, .int zd, .ref y1, .ref y2, .ref y3, .ref y4, .ref mZ])), (mS, .inl (cI, 21, .inl f_32)), (mX, .inl (cI, 6300, .inl eXb)), (rw, .inl (cI, cw, .inl fr))] := hD
                have hP9 := hP.sub (ws' := [(oM, .inr (12, [.ref mT, .int zt, .ref mS, .ref mX, .int zp, .int x_23, .ref mL, .ref mB, .ref mD, .ref m1, .ref m2, .int zh, .ref mR, .int zr, .ref x1, .ref x2, .ref x3, .int zc, .ref mH, .int zy, .int za, .int zb, .int x_34, .int zq, .int zw, .int ze, .ref mY, .int zn, .ref mE, .int zm, .int zl, .ref mW, .int zk, .ref mO, .int zd, .ref y1, .ref y2, .ref y3, .ref y4, .ref mZ])), (mS, .inl (cI, 21, .inl f_32)), (mX, .inl (cI, 6300, .inl eXb)), (rw, .inl (cI, cw, .inl fr))]) [0, 1, 2, 3] rfl
                have hD9 := hD.sub (ws' := [(oM, .inr (12, [.ref mT, .int zt, .ref mS, .ref mX, .int zp, .int x_23, .ref mL, .ref mB, .ref mD, .ref m1, .ref m2, .int zh, .ref mR, .int zr, .ref x1, .ref x2, .ref x3, .int zc, .ref mH, .int zy, .int za, .int zb, .int x_34, .int zq, .int zw, .int ze, .ref mY, .int zn, .ref mE, .int zm, .int zl, .ref mW, .int zk, .ref mO, .int zd, .ref y1, .ref y2, .ref y3, .ref y4, .ref mZ])), (mS, .inl (cI, 21, .inl f_32)), (mX, .inl (cI, 6300, .inl eXb)), (rw, .inl (cI, cw, .inl fr))]) [0, 1, 2, 3] (by decide) rfl
                rw [hQQ]
                exact W.vret hx hb hr (fun t ht hW => ⟨⟨(), rfl, trivial, ⟨zp, x_23, x_34, f_32, eXb, by rw [ht]; exact hP9, hD9, by omega, by omega, by omega, g_f32, g_eXb, by show x_34.toInt = zs.toInt + 1; omega, bR_of (t := x_27) (by omega) (by omega) (by omega) ex_28 ef_29 ef_32 hcb (by omega) hcc (by omega)⟩⟩, hS.F ht⟩) hS.2.2 dX12_become_147
              · have tc_33 : k2.toInt < n.toInt := v_nle c_33
                refine lv_aload_n hx hb dX12_become_120 rfl (lv_at hl 2 rfl) ?_
                refine va_get (D := (dC, dI)) (ci := 12) (v := .ref mX) (C := RX12) (T := TX12) (N := 40) hx hb hts in_X12 hown hK hP 0 rfl rfl 3 (by decide) (hts (.fieldLink RX12 16 "TextMenderModel" "texts" "[I") (List.mem_of_getElem? (i := 4) rfl)) (fun _ h9 => h9) rfl dX12_become_121 ?_
                refine lv_iload hx hb dX12_become_124 (lv_at hl 0 rfl) ?_
                refine lv_aload_n hx hb dX12_become_126 rfl (lv_at hl 3 rfl) ?_
                refine lv_iload hx hb dX12_become_127 (lv_at hl 0 rfl) ?_
                refine va_iald hx hb hK hP 3 0 rfl rfl (v_in (by omega)) dX12_become_129 ?_
                refine lv_topi (fun x_35 ex_35 => ?_)
                have tp_x_35 := prg_at hrow ex_35 (by omega) (by omega)
                refine va_iast hx hb hK hP hD hS 2 0 rfl rfl (v_in (by omega)) dX12_become_130 (fun H locs hP hD hS => ?_)
                have hP : va_P (dC, dI) vwCl [(oM, .inr (12, [.ref mT, .int zt, .ref mS, .ref mX, .int zp, .int x_23, .ref mL, .ref mB, .ref mD, .ref m1, .ref m2, .int zh, .ref mR, .int zr, .ref x1, .ref x2, .ref x3, .int zc, .ref mH, .int zy, .int za, .int zb, .int zs, .int zq, .int zw, .int ze, .ref mY, .int zn, .ref mE, .int zm, .int zl, .ref mW, .int zk, .ref mO, .int zd, .ref y1, .ref y2, .ref y3, .ref y4, .ref mZ])), (mS, .inl (cI, 21, .inl f_32)), (mX, .inl (cI, 6300, .inl (upd eXb (k2 : Int32).toNatClampNeg x_35))), (rw, .inl (cI, cw, .inl fr))] H := hP
                have hD : va_D A [(oM, .inr (12, [.ref mT, .int zt, .ref mS, .ref mX, .int zp, .int x_23, .ref mL, .ref mB, .ref mD, .ref m1, .ref m2, .int zh, .ref mR, .int zr, .ref x1, .ref x2, .ref x3, .int zc, .ref mH, .int zy, .int za, .int zb, .int zs, .int zq, .int zw, .int ze, .ref mY, .int zn, .ref mE, .int zm, .int zl, .ref mW, .int zk, .ref mO, .int zd, .ref y1, .ref y2, .ref y3, .ref y4, .ref mZ])), (mS, .inl (cI, 21, .inl f_32)), (mX, .inl (cI, 6300, .inl (upd eXb (k2 : Int32).toNatClampNeg x_35))), (rw, .inl (cI, cw, .inl fr))] := hD
                obtain ⟨f_36, ef_36⟩ : ∃ g : Nat → Int32, g = upd eXb (k2 : Int32).toNatClampNeg x_35 := ⟨_, rfl⟩
                rw [← ef_36] at hP hD
                have g_f36 : rg 0 65535 f_36 := rg_upd ef_36 g_eXb (by omega)
                obtain ⟨x_37, ex_37⟩ : ∃ y : Int32, y = k2 + 1 := ⟨_, rfl⟩
                have tx_37 : x_37.toInt = k2.toInt + 1 := v_add ex_37 (by show -2147483648 ≤ k2.toInt + 1; omega) (by show k2.toInt + 1 < 2147483648; omega)
                refine lv_iinc (v := x_37) (lv' := [(4, .int x_37), (3, .int x_27), (0, .ref oM), (1, .ref rw), (2, .int n)]) hx hb dX12_become_131 hl (k := 0) rfl (by rw [ex_37]; rfl) (by decide) rfl (fun ls hl => ?_)
                refine lv_goto (tgt := 114) hx hb dX12_become_134 (by decide) ?_
                exact ih_114 x_37 f_36 _ _ _ (by have hm9 := hm_114; show ((300 - x_37.toInt : Int)).toNat < k_114; omega) (by show 0 ≤ x_37.toInt ∧ x_37.toInt ≤ 300; omega) (g_f36) (by show x_37.toInt ≤ n.toInt; omega) (CPB_s hcc (by omega) (by omega) ex_35 ef_36 (by omega) (by omega)) hP hD hS (lv_sub hl [0, 1, 2, 3, 4] rfl)
          exact LOOP_114 _ 0 eXa _ _ _ (Nat.lt_succ_self _) (by decide) (g_eXa) (by show 0 ≤ n.toInt; omega) (CPB_0 (by decide)) hP hD hS (lv_sub hl [0, 1, 2, 3, 4] rfl)
        · have tc_31 : k.toInt < x_30.toInt := v_nle c_31
          refine lv_aload_n hx hb dX12_become_78 rfl (lv_at hl 2 rfl) ?_
          refine va_get (D := (dC, dI)) (ci := 12) (v := .ref mX) (C := RX12) (T := TX12) (N := 40) hx hb hts in_X12 hown hK hP 0 rfl rfl 3 (by decide) (hts (.fieldLink RX12 16 "TextMenderModel" "texts" "[I") (List.mem_of_getElem? (i := 4) rfl)) (fun _ h9 => h9) rfl dX12_become_79 ?_
          refine lv_sipush (v := 300) hx hb dX12_become_82 (by decide) ?_
          refine lv_iload_n hx hb dX12_become_85 rfl (lv_at hl 1 rfl) ?_
          refine lv_imul hx hb dX12_become_86 ?_
          refine lv_topi (fun x_38 ex_38 => ?_)
          have tx_38 : x_38.toInt = 300 * x_27.toInt := v_mul ex_38 (by show -2147483648 ≤ 300 * x_27.toInt; omega) (by show 300 * x_27.toInt < 2147483648; omega)
          refine lv_iload hx hb dX12_become_87 (lv_at hl 0 rfl) ?_
          refine lv_iadd hx hb dX12_become_89 ?_
          refine lv_topi (fun x_39 ex_39 => ?_)
          have tx_39 : x_39.toInt = x_38.toInt + k.toInt := v_add ex_39 (by show -2147483648 ≤ x_38.toInt + k.toInt; omega) (by show x_38.toInt + k.toInt < 2147483648; omega)
          refine lv_aload_n hx hb dX12_become_90 rfl (lv_at hl 2 rfl) ?_
          refine va_get (D := (dC, dI)) (ci := 12) (v := .ref mX) (C := RX12) (T := TX12) (N := 40) hx hb hts in_X12 hown hK hP 0 rfl rfl 3 (by decide) (hts (.fieldLink RX12 16 "TextMenderModel" "texts" "[I") (List.mem_of_getElem? (i := 4) rfl)) (fun _ h9 => h9) rfl dX12_become_91 ?_
          refine lv_iload hx hb dX12_become_94 (lv_at hl 0 rfl) ?_
          refine va_iald hx hb hK hP 2 0 rfl rfl (v_in (by omega)) dX12_become_96 ?_
          refine lv_topi (fun x_40 ex_40 => ?_)
          have tx_40 : 0 ≤ x_40.toInt ∧ x_40.toInt ≤ 65535 := rg_at g_eXa ex_40
          refine va_iast hx hb hK hP hD hS 2 0 rfl rfl (v_in (by omega)) dX12_become_97 (fun H locs hP hD hS => ?_)
          have hP : va_P (dC, dI) vwCl [(oM, .inr (12, [.ref mT, .int zt, .ref mS, .ref mX, .int zp, .int x_23, .ref mL, .ref mB, .ref mD, .ref m1, .ref m2, .int zh, .ref mR, .int zr, .ref x1, .ref x2, .ref x3, .int zc, .ref mH, .int zy, .int za, .int zb, .int zs, .int zq, .int zw, .int ze, .ref mY, .int zn, .ref mE, .int zm, .int zl, .ref mW, .int zk, .ref mO, .int zd, .ref y1, .ref y2, .ref y3, .ref y4, .ref mZ])), (mS, .inl (cI, 21, .inl f_29)), (mX, .inl (cI, 6300, .inl (upd eXa (x_39 : Int32).toNatClampNeg x_40))), (rw, .inl (cI, cw, .inl fr))] H := hP
          have hD : va_D A [(oM, .inr (12, [.ref mT, .int zt, .ref mS, .ref mX, .int zp, .int x_23, .ref mL, .ref mB, .ref mD, .ref m1, .ref m2, .int zh, .ref mR, .int zr, .ref x1, .ref x2, .ref x3, .int zc, .ref mH, .int zy, .int za, .int zb, .int zs, .int zq, .int zw, .int ze, .ref mY, .int zn, .ref mE, .int zm, .int zl, .ref mW, .int zk, .ref mO, .int zd, .ref y1, .ref y2, .ref y3, .ref y4, .ref mZ])), (mS, .inl (cI, 21, .inl f_29)), (mX, .inl (cI, 6300, .inl (upd eXa (x_39 : Int32).toNatClampNeg x_40))), (rw, .inl (cI, cw, .inl fr))] := hD
          obtain ⟨f_41, ef_41⟩ : ∃ g : Nat → Int32, g = upd eXa (x_39 : Int32).toNatClampNeg x_40 := ⟨_, rfl⟩
          rw [← ef_41] at hP hD
          have g_f41 : rg 0 65535 f_41 := rg_upd ef_41 g_eXa (by omega)
          obtain ⟨x_42, ex_42⟩ : ∃ y : Int32, y = k + 1 := ⟨_, rfl⟩
          have tx_42 : x_42.toInt = k.toInt + 1 := v_add ex_42 (by show -2147483648 ≤ k.toInt + 1; omega) (by show k.toInt + 1 < 2147483648; omega)
          refine lv_iinc (v := x_42) (lv' := [(4, .int x_42), (3, .int x_27), (0, .ref oM), (1, .ref rw), (2, .int n)]) hx hb dX12_become_98 hl (k := 0) rfl (by rw [ex_42]; rfl) (by decide) rfl (fun ls hl => ?_)
          refine lv_goto (tgt := 67) hx hb dX12_become_101 (by decide) ?_
          exact ih_67 x_42 f_41 _ _ _ (by have hm9 := hm_67; show ((300 - x_42.toInt : Int)).toNat < k_67; omega) (by show 0 ≤ x_42.toInt ∧ x_42.toInt ≤ 300; omega) (g_f41) (by show x_42.toInt ≤ (eS 0).toInt; omega) (CPB_s hcb (by omega) (by omega) (ex_40.trans (hcb.2 _ (by have c9 := v_clamp (x := k) (by omega); omega))) ef_41 (by omega) (by omega)) hP hD hS (lv_sub hl [0, 1, 2, 3, 4] rfl)
    exact LOOP_67 _ 0 eX _ _ _ (Nat.lt_succ_self _) (by decide) (g_eX) (by show 0 ≤ (eS 0).toInt; omega) (CPB_0 (by decide)) hP hD hS (lv_sub hl [0, 1, 2, 3, 4] rfl)

set_option maxHeartbeats 40000000 in
set_option maxRecDepth 100000 in
theorem f_X12_back (l : Launch) (dC : Nat → ClassId) (dI : Nat → Nat → Nat) (cI cS : ClassId) (sz : Nat) (oM : Nat) (mT : Nat) (mS : Nat) (mX : Nat) (mL : Nat) (mB : Nat) (mD : Nat) (m1 : Nat) (m2 : Nat) (mR : Nat) (x1 : Nat) (x2 : Nat) (x3 : Nat) (mH : Nat) (mY : Nat) (mE : Nat) (mW : Nat) (mO : Nat) (y1 : Nat) (y2 : Nat) (y3 : Nat) (y4 : Nat) (mZ : Nat) (zt : Int32) (zp : Int32) (zf : Int32) (zh : Int32) (zr : Int32) (zc : Int32) (zy : Int32) (za : Int32) (zb : Int32) (zs : Int32) (zq : Int32) (zw : Int32) (ze : Int32) (zn : Int32) (zm : Int32) (zl : Int32) (zk : Int32) (zd : Int32) (eS : Nat → Int32) (eX : Nat → Int32) (g_zt : 0 ≤ zt.toInt ∧ zt.toInt ≤ 900) (g_zp : 0 ≤ zp.toInt ∧ zp.toInt ≤ 20) (g_zf : 0 ≤ zf.toInt ∧ zf.toInt ≤ 19) (g_zh : 0 ≤ zh.toInt ∧ zh.toInt ≤ 6) (g_zr : 0 ≤ zr.toInt ∧ zr.toInt ≤ 258) (g_zc : 0 ≤ zc.toInt ∧ zc.toInt ≤ 300) (g_zy : 0 ≤ zy.toInt ∧ zy.toInt ≤ 65536) (g_za : 0 ≤ za.toInt ∧ za.toInt ≤ 5) (g_zb : 0 ≤ zb.toInt ∧ zb.toInt ≤ 5) (g_zs : 0 ≤ zs.toInt ∧ zs.toInt ≤ 2000000) (g_zq : -1 ≤ zq.toInt ∧ zq.toInt ≤ 2000000) (g_zn : 0 ≤ zn.toInt ∧ zn.toInt ≤ 2600) (g_zm : 0 ≤ zm.toInt ∧ zm.toInt ≤ 2600) (g_zk : 0 ≤ zk.toInt ∧ zk.toInt ≤ 300) (g_eS : rg 0 300 eS) (g_eX : rg 0 65535 eX) (hzs : zs.toInt ≤ 1000000) : Met l yX12_back wsX12_back ({ frames := 0, cells := 0, slots := 0, locals := 0 } : Room) (va_Pc [.ref oM] (fun U => U.heap.size = sz ∧ va_P (dC, dI) vwCl [(oM, .inr (12, [.ref mT, .int zt, .ref mS, .ref mX, .int zp, .int zf, .ref mL, .ref mB, .ref mD, .ref m1, .ref m2, .int zh, .ref mR, .int zr, .ref x1, .ref x2, .ref x3, .int zc, .ref mH, .int zy, .int za, .int zb, .int zs, .int zq, .int zw, .int ze, .ref mY, .int zn, .ref mE, .int zm, .int zl, .ref mW, .int zk, .ref mO, .int zd, .ref y1, .ref y2, .ref y3, .ref y4, .ref mZ])), (mS, .inl (cI, 21, .inl eS)), (mX, .inl (cI, 6300, .inl eX))] U.heap ∧ va_K (dC, dI) vwCl [(cI, .int), (cS, .short)] U ∧ va_D (fun _ => True) [(oM, .inr (12, [.ref mT, .int zt, .ref mS, .ref mX, .int zp, .int zf, .ref mL, .ref mB, .ref mD, .ref m1, .ref m2, .int zh, .ref mR, .int zr, .ref x1, .ref x2, .ref x3, .int zc, .ref mH, .int zy, .int za, .int zb, .int zs, .int zq, .int zw, .int ze, .ref mY, .int zn, .ref mE, .int zm, .int zl, .ref mW, .int zk, .ref mO, .int zd, .ref y1, .ref y2, .ref y3, .ref y4, .ref mZ])), (mS, .inl (cI, 21, .inl eS)), (mX, .inl (cI, 6300, .inl eX))])) (va_Qi (fun (r : Int32) (u : Int32) => r = u) (fun (r : Int32) t => ∃ (ze' : Int32) (zp' : Int32) (eS' : Nat → Int32) (eX' : Nat → Int32) (zs' : Int32), va_P (dC, dI) vwCl [(oM, .inr (12, [.ref mT, .int zt, .ref mS, .ref mX, .int zp', .int zf, .ref mL, .ref mB, .ref mD, .ref m1, .ref m2, .int zh, .ref mR, .int zr, .ref x1, .ref x2, .ref x3, .int zc, .ref mH, .int zy, .int za, .int zb, .int zs', .int zq, .int zw, .int ze', .ref mY, .int zn, .ref mE, .int zm, .int zl, .ref mW, .int zk, .ref mO, .int zd, .ref y1, .ref y2, .ref y3, .ref y4, .ref mZ])), (mS, .inl (cI, 21, .inl eS')), (mX, .inl (cI, 6300, .inl eX'))] t.heap ∧ va_D (va_A [(oM, .inr (12, [.ref mT, .int zt, .ref mS, .ref mX, .int zp, .int zf, .ref mL, .ref mB, .ref mD, .ref m1, .ref m2, .int zh, .ref mR, .int zr, .ref x1, .ref x2, .ref x3, .int zc, .ref mH, .int zy, .int za, .int zb, .int zs, .int zq, .int zw, .int ze, .ref mY, .int zn, .ref mE, .int zm, .int zl, .ref mW, .int zk, .ref mO, .int zd, .ref y1, .ref y2, .ref y3, .ref y4, .ref mZ])), (mS, .inl (cI, 21, .inl eS)), (mX, .inl (cI, 6300, .inl eX))] sz) [(oM, .inr (12, [.ref mT, .int zt, .ref mS, .ref mX, .int zp', .int zf, .ref mL, .ref mB, .ref mD, .ref m1, .ref m2, .int zh, .ref mR, .int zr, .ref x1, .ref x2, .ref x3, .int zc, .ref mH, .int zy, .int za, .int zb, .int zs', .int zq, .int zw, .int ze', .ref mY, .int zn, .ref mE, .int zm, .int zl, .ref mW, .int zk, .ref mO, .int zd, .ref y1, .ref y2, .ref y3, .ref y4, .ref mZ])), (mS, .inl (cI, 21, .inl eS')), (mX, .inl (cI, 6300, .inl eX'))] ∧ (0 ≤ zp'.toInt ∧ zp'.toInt ≤ 20) ∧ (rg 0 300 eS') ∧ (rg 0 65535 eX') ∧ (0 ≤ zs'.toInt ∧ zs'.toInt ≤ 2000000) ∧ (zs'.toInt ≤ zs.toInt + 1 ∧ zs.toInt ≤ zs'.toInt) ∧ (F_st zs zs' eX eX' eS eS') ∧ (F_tbR r zp zp' zf eS eS' eX eX') ∧ (F_zs (-1) r zs zs')) (va_A [(oM, .inr (12, [.ref mT, .int zt, .ref mS, .ref mX, .int zp, .int zf, .ref mL, .ref mB, .ref mD, .ref m1, .ref m2, .int zh, .ref mR, .int zr, .ref x1, .ref x2, .ref x3, .int zc, .ref mH, .int zy, .int za, .int zb, .int zs, .int zq, .int zw, .int ze, .ref mY, .int zn, .ref mE, .int zm, .int zl, .ref mW, .int zk, .ref mO, .int zd, .ref y1, .ref y2, .ref y3, .ref y4, .ref mZ])), (mS, .inl (cI, 21, .inl eS)), (mX, .inl (cI, 6300, .inl eX))] sz)) 0 0 (va_A [(oM, .inr (12, [.ref mT, .int zt, .ref mS, .ref mX, .int zp, .int zf, .ref mL, .ref mB, .ref mD, .ref m1, .ref m2, .int zh, .ref mR, .int zr, .ref x1, .ref x2, .ref x3, .int zc, .ref mH, .int zy, .int za, .int zb, .int zs, .int zq, .int zw, .int ze, .ref mY, .int zn, .ref mE, .int zm, .int zl, .ref mW, .int zk, .ref mO, .int zd, .ref y1, .ref y2, .ref y3, .ref y4, .ref mZ])), (mS, .inl (cI, 21, .inl eS)), (mX, .inl (cI, 6300, .inl eX))] sz) := by
  refine Met.ofW (cc := cX12_back) (maxL := 3) (ret := (some .int)) (by decide) rfl ?_
  intro p e s m args below meth c s₁ B hml hv
  obtain ⟨rfl, hsz, hP, hK, hD0⟩ := hv
  have hx := B.exec
  have hb := B.bytes
  have hr := B.returns
  have hts := atoms_spec (ws := wsX12_back) B.pre
  have hown : s.vm.findClass RX12 = some m.cls := findClass_of_methodNamed B.named
  have hlocks := B.notSynchronized
  have in_X12 : ∀ w ∈ wsX120, w ∈ wsX12_back := fun _ h => List.mem_cons_of_mem _ (List.mem_append_right _ (h))
  subst hsz
  have hD := hD0.self (sz := s.heap.size)
  generalize hAe : va_A [(oM, .inr (12, [.ref mT, .int zt, .ref mS, .ref mX, .int zp, .int zf, .ref mL, .ref mB, .ref mD, .ref m1, .ref m2, .int zh, .ref mR, .int zr, .ref x1, .ref x2, .ref x3, .int zc, .ref mH, .int zy, .int za, .int zb, .int zs, .int zq, .int zw, .int ze, .ref mY, .int zn, .ref mE, .int zm, .int zl, .ref mW, .int zk, .ref mO, .int zd, .ref y1, .ref y2, .ref y3, .ref y4, .ref mZ])), (mS, .inl (cI, 21, .inl eS)), (mX, .inl (cI, 6300, .inl eX))] s.heap.size = A at hD ⊢
  have hA : ∀ q : Nat, s.heap.size ≤ q → A q := fun q h => by rw [← hAe]; exact Or.inr h
  have hS : va_S A s.heap s.heap [] := va_S.rf
  have hP : va_P (dC, dI) vwCl [(oM, .inr (12, [.ref mT, .int zt, .ref mS, .ref mX, .int zp, .int zf, .ref mL, .ref mB, .ref mD, .ref m1, .ref m2, .int zh, .ref mR, .int zr, .ref x1, .ref x2, .ref x3, .int zc, .ref mH, .int zy, .int za, .int zb, .int zs, .int zq, .int zw, .int ze, .ref mY, .int zn, .ref mE, .int zm, .int zl, .ref mW, .int zk, .ref mO, .int zd, .ref y1, .ref y2, .ref y3, .ref y4, .ref mZ])), (mS, .inl (cI, 21, .inl eS)), (mX, .inl (cI, 6300, .inl eX))] s.heap := hP
  have hl := lv_entry ([.ref oM]) (n := 3) (Nat.le_of_ble_eq_true rfl)
  rw [lg_entry_eq]
  generalize (lg_sl ([.ref oM]) ++ List.replicate (3 - (lg_sl ([.ref oM])).length) Slot.unset).toArray = ls at hl ⊢
  have hl : lv_has ls 3 [(0, .ref oM)] := hl
  obtain ⟨QQ, hQQ⟩ : ∃ QQ : Array Value → State → Outcome → State → Prop, QQ = va_Qi (fun (r : Int32) (u : Int32) => r = u) (fun (r : Int32) t => ∃ (ze' : Int32) (zp' : Int32) (eS' : Nat → Int32) (eX' : Nat → Int32) (zs' : Int32), va_P (dC, dI) vwCl [(oM, .inr (12, [.ref mT, .int zt, .ref mS, .ref mX, .int zp', .int zf, .ref mL, .ref mB, .ref mD, .ref m1, .ref m2, .int zh, .ref mR, .int zr, .ref x1, .ref x2, .ref x3, .int zc, .ref mH, .int zy, .int za, .int zb, .int zs', .int zq, .int zw, .int ze', .ref mY, .int zn, .ref mE, .int zm, .int zl, .ref mW, .int zk, .ref mO, .int zd, .ref y1, .ref y2, .ref y3, .ref y4, .ref mZ])), (mS, .inl (cI, 21, .inl eS')), (mX, .inl (cI, 6300, .inl eX'))] t.heap ∧ va_D A [(oM, .inr (12, [.ref mT, .int zt, .ref mS, .ref mX, .int zp', .int zf, .ref mL, .ref mB, .ref mD, .ref m1, .ref m2, .int zh, .ref mR, .int zr, .ref x1, .ref x2, .ref x3, .int zc, .ref mH, .int zy, .int za, .int zb, .int zs', .int zq, .int zw, .int ze', .ref mY, .int zn, .ref mE, .int zm, .int zl, .ref mW, .int zk, .ref mO, .int zd, .ref y1, .ref y2, .ref y3, .ref y4, .ref mZ])), (mS, .inl (cI, 21, .inl eS')), (mX, .inl (cI, 6300, .inl eX'))] ∧ (0 ≤ zp'.toInt ∧ zp'.toInt ≤ 20) ∧ (rg 0 300 eS') ∧ (rg 0 65535 eX') ∧ (0 ≤ zs'.toInt ∧ zs'.toInt ≤ 2000000) ∧ (zs'.toInt ≤ zs.toInt + 1 ∧ zs.toInt ≤ zs'.toInt) ∧ (F_st zs zs' eX eX' eS eS') ∧ (F_tbR r zp zp' zf eS eS' eX eX') ∧ (F_zs (-1) r zs zs')) A := ⟨_, rfl⟩
  rw [← hQQ]
  refine lv_aload_n hx hb dX12_back_0 rfl (lv_at hl 0 rfl) ?_
  refine lv_iconst (v := 0) hx hb dX12_back_1 (by decide) ?_
  refine va_put (D := (dC, dI)) (ci := 12) (v := .int 0) (ty := .int) (C := RX12) (T := TX12) (N := 40) hx hb hts in_X12 tyX12 tyX12_ok nmX12 hown hK hP hD hS 0 rfl rfl 25 (by decide) (hts (.fieldLink RX12 85 "TextMenderModel" "thrown" "I") (List.mem_of_getElem? (i := 1) rfl)) (fun _ h9 => h9) rfl (by decide +kernel) rfl rfl (Nat.le_of_ble_eq_true rfl) dX12_back_2 (fun H locs hP hD hS => ?_)
  have hP : va_P (dC, dI) vwCl [(oM, .inr (12, [.ref mT, .int zt, .ref mS, .ref mX, .int zp, .int zf, .ref mL, .ref mB, .ref mD, .ref m1, .ref m2, .int zh, .ref mR, .int zr, .ref x1, .ref x2, .ref x3, .int zc, .ref mH, .int zy, .int za, .int zb, .int zs, .int zq, .int zw, .int 0, .ref mY, .int zn, .ref mE, .int zm, .int zl, .ref mW, .int zk, .ref mO, .int zd, .ref y1, .ref y2, .ref y3, .ref y4, .ref mZ])), (mS, .inl (cI, 21, .inl eS)), (mX, .inl (cI, 6300, .inl eX))] H := hP
  have hD : va_D A [(oM, .inr (12, [.ref mT, .int zt, .ref mS, .ref mX, .int zp, .int zf, .ref mL, .ref mB, .ref mD, .ref m1, .ref m2, .int zh, .ref mR, .int zr, .ref x1, .ref x2, .ref x3, .int zc, .ref mH, .int zy, .int za, .int zb, .int zs, .int zq, .int zw, .int 0, .ref mY, .int zn, .ref mE, .int zm, .int zl, .ref mW, .int zk, .ref mO, .int zd, .ref y1, .ref y2, .ref y3, .ref y4, .ref mZ])), (mS, .inl (cI, 21, .inl eS)), (mX, .inl (cI, 6300, .inl eX))] := hD
  refine lv_aload_n hx hb dX12_back_5 rfl (lv_at hl 0 rfl) ?_
  refine va_get (D := (dC, dI)) (ci := 12) (v := .int zp) (C := RX12) (T := TX12) (N := 40) hx hb hts in_X12 hown hK hP 0 rfl rfl 4 (by decide) (hts (.fieldLink RX12 142 "TextMenderModel" "past" "I") (List.mem_of_getElem? (i := 2) rfl)) (fun _ h9 => h9) rfl dX12_back_6 ?_
  refine lv_if_ne (tgt := 14) hx hb dX12_back_9 (by decide) (fun c_1 => ?_) (fun c_1 => ?_)
  · have tc_1 : ¬ zp.toInt = 0 := v_ne c_1
    refine lv_aload_n hx hb dX12_back_14 rfl (lv_at hl 0 rfl) ?_
    refine lv_dup hx hb dX12_back_15 rfl ?_
    refine va_get (D := (dC, dI)) (ci := 12) (v := .int zp) (C := RX12) (T := TX12) (N := 40) hx hb hts in_X12 hown hK hP 0 rfl rfl 4 (by decide) (hts (.fieldLink RX12 142 "TextMenderModel" "past" "I") (List.mem_of_getElem? (i := 2) rfl)) (fun _ h9 => h9) rfl dX12_back_16 ?_
    refine lv_iconst (v := 1) hx hb dX12_back_19 (by decide) ?_
    refine lv_isub hx hb dX12_back_20 ?_
    refine lv_topi (fun x_2 ex_2 => ?_)
    have tx_2 : x_2.toInt = zp.toInt - 1 := v_sub ex_2 (by show -2147483648 ≤ zp.toInt - 1; omega) (by show zp.toInt - 1 < 2147483648; omega)
    refine va_put (D := (dC, dI)) (ci := 12) (v := .int x_2) (ty := .int) (C := RX12) (T := TX12) (N := 40) hx hb hts in_X12 tyX12 tyX12_ok nmX12 hown hK hP hD hS 0 rfl rfl 4 (by decide) (hts (.fieldLink RX12 142 "TextMenderModel" "past" "I") (List.mem_of_getElem? (i := 2) rfl)) (fun _ h9 => h9) rfl (by decide +kernel) rfl rfl (Nat.le_of_ble_eq_true rfl) dX12_back_21 (fun H locs hP hD hS => ?_)
    have hP : va_P (dC, dI) vwCl [(oM, .inr (12, [.ref mT, .int zt, .ref mS, .ref mX, .int x_2, .int zf, .ref mL, .ref mB, .ref mD, .ref m1, .ref m2, .int zh, .ref mR, .int zr, .ref x1, .ref x2, .ref x3, .int zc, .ref mH, .int zy, .int za, .int zb, .int zs, .int zq, .int zw, .int 0, .ref mY, .int zn, .ref mE, .int zm, .int zl, .ref mW, .int zk, .ref mO, .int zd, .ref y1, .ref y2, .ref y3, .ref y4, .ref mZ])), (mS, .inl (cI, 21, .inl eS)), (mX, .inl (cI, 6300, .inl eX))] H := hP
    have hD : va_D A [(oM, .inr (12, [.ref mT, .int zt, .ref mS, .ref mX, .int x_2, .int zf, .ref mL, .ref mB, .ref mD, .ref m1, .ref m2, .int zh, .ref mR, .int zr, .ref x1, .ref x2, .ref x3, .int zc, .ref mH, .int zy, .int za, .int zb, .int zs, .int zq, .int zw, .int 0, .ref mY, .int zn, .ref mE, .int zm, .int zl, .ref mW, .int zk, .ref mO, .int zd, .ref y1, .ref y2, .ref y3, .ref y4, .ref mZ])), (mS, .inl (cI, 21, .inl eS)), (mX, .inl (cI, 6300, .inl eX))] := hD
    refine lv_iconst (v := 1) hx hb dX12_back_24 (by decide) ?_
    refine lv_aload_n hx hb dX12_back_25 rfl (lv_at hl 0 rfl) ?_
    refine va_get (D := (dC, dI)) (ci := 12) (v := .int zf) (C := RX12) (T := TX12) (N := 40) hx hb hts in_X12 hown hK hP 0 rfl rfl 5 (by decide) (hts (.fieldLink RX12 145 "TextMenderModel" "firstPast" "I") (List.mem_of_getElem? (i := 3) rfl)) (fun _ h9 => h9) rfl dX12_back_26 ?_
    refine lv_aload_n hx hb dX12_back_29 rfl (lv_at hl 0 rfl) ?_
    refine va_get (D := (dC, dI)) (ci := 12) (v := .int x_2) (C := RX12) (T := TX12) (N := 40) hx hb hts in_X12 hown hK hP 0 rfl rfl 4 (by decide) (hts (.fieldLink RX12 142 "TextMenderModel" "past" "I") (List.mem_of_getElem? (i := 2) rfl)) (fun _ h9 => h9) rfl dX12_back_30 ?_
    refine lv_iadd hx hb dX12_back_33 ?_
    refine lv_topi (fun x_3 ex_3 => ?_)
    have tx_3 : x_3.toInt = zf.toInt + x_2.toInt := v_add ex_3 (by show -2147483648 ≤ zf.toInt + x_2.toInt; omega) (by show zf.toInt + x_2.toInt < 2147483648; omega)
    refine lv_bipush (v := 20) hx hb dX12_back_34 (by decide) ?_
    refine lv_irem hx hb dX12_back_36 (by decide) ?_
    refine lv_topi (fun x_4 ex_4 => ?_)
    have tx_4 : x_4.toInt = x_3.toInt % 20 := v_rem ex_4 (by omega) (by decide)
    refine lv_iadd hx hb dX12_back_37 ?_
    refine lv_topi (fun x_5 ex_5 => ?_)
    have tx_5 : x_5.toInt = 1 + x_4.toInt := v_add ex_5 (by show -2147483648 ≤ 1 + x_4.toInt; omega) (by show 1 + x_4.toInt < 2147483648; omega)
    refine lv_istore_n (lv' := [(1, .int x_5), (0, .ref oM)]) hx hb dX12_back_38 rfl hl (by decide) rfl (fun ls hl => ?_)
    refine lv_aload_n hx hb dX12_back_39 rfl (lv_at hl 1 rfl) ?_
    refine va_get (D := (dC, dI)) (ci := 12) (v := .ref mS) (C := RX12) (T := TX12) (N := 40) hx hb hts in_X12 hown hK hP 0 rfl rfl 2 (by decide) (hts (.fieldLink RX12 13 "TextMenderModel" "sizes" "[I") (List.mem_of_getElem? (i := 4) rfl)) (fun _ h9 => h9) rfl dX12_back_40 ?_
    refine lv_iconst (v := 0) hx hb dX12_back_43 (by decide) ?_
    refine lv_aload_n hx hb dX12_back_44 rfl (lv_at hl 1 rfl) ?_
    refine va_get (D := (dC, dI)) (ci := 12) (v := .ref mS) (C := RX12) (T := TX12) (N := 40) hx hb hts in_X12 hown hK hP 0 rfl rfl 2 (by decide) (hts (.fieldLink RX12 13 "TextMenderModel" "sizes" "[I") (List.mem_of_getElem? (i := 4) rfl)) (fun _ h9 => h9) rfl dX12_back_45 ?_
    refine lv_iload_n hx hb dX12_back_48 rfl (lv_at hl 0 rfl) ?_
    refine va_iald hx hb hK hP 1 0 rfl rfl (v_in (by omega)) dX12_back_49 ?_
    refine lv_topi (fun x_6 ex_6 => ?_)
    have tx_6 : 0 ≤ x_6.toInt ∧ x_6.toInt ≤ 300 := rg_at g_eS ex_6
    refine va_iast hx hb hK hP hD hS 1 0 rfl rfl (by unfold vp_in; decide) dX12_back_50 (fun H locs hP hD hS => ?_)
    have hP : va_P (dC, dI) vwCl [(oM, .inr (12, [.ref mT, .int zt, .ref mS, .ref mX, .int x_2, .int zf, .ref mL, .ref mB, .ref mD, .ref m1, .ref m2, .int zh, .ref mR, .int zr, .ref x1, .ref x2, .ref x3, .int zc, .ref mH, .int zy, .int za, .int zb, .int zs, .int zq, .int zw, .int 0, .ref mY, .int zn, .ref mE, .int zm, .int zl, .ref mW, .int zk, .ref mO, .int zd, .ref y1, .ref y2, .ref y3, .ref y4, .ref mZ])), (mS, .inl (cI, 21, .inl (upd eS (0 : Int32).toNatClampNeg x_6))), (mX, .inl (cI, 6300, .inl eX))] H := hP
    have hD : va_D A [(oM, .inr (12, [.ref mT, .int zt, .ref mS, .ref mX, .int x_2, .int zf, .ref mL, .ref mB, .ref mD, .ref m1, .ref m2, .int zh, .ref mR, .int zr, .ref x1, .ref x2, .ref x3, .int zc, .ref mH, .int zy, .int za, .int zb, .int zs, .int zq, .int zw, .int 0, .ref mY, .int zn, .ref mE, .int zm, .int zl, .ref mW, .int zk, .ref mO, .int zd, .ref y1, .ref y2, .ref y3, .ref y4, .ref mZ])), (mS, .inl (cI, 21, .inl (upd eS (0 : Int32).toNatClampNeg x_6))), (mX, .inl (cI, 6300, .inl eX))] := hD
    obtain ⟨f_7, ef_7⟩ : ∃ g : Nat → Int32, g = upd eS (0 : Int32).toNatClampNeg x_6 := ⟨_, rfl⟩
    rw [← ef_7] at hP hD
    have g_f7 : rg 0 300 f_7 := rg_upd ef_7 g_eS (by omega)
    refine lv_iconst (v := 0) hx hb dX12_back_51 (by decide) ?_
    refine lv_istore_n (lv' := [(2, .int 0), (1, .int x_5), (0, .ref oM)]) hx hb dX12_back_52 rfl hl (by decide) rfl (fun ls hl => ?_)
    have LOOP_53 : ∀ (k_53 : Nat) (k : Int32) (eXa : Nat → Int32) (H : Heap) (locs : List Loc) (ls : Array Slot), (300 - k.toInt : Int).toNat < k_53 → (0 ≤ k.toInt ∧ k.toInt ≤ 300) → (rg 0 65535 eXa) → (k.toInt ≤ x_6.toInt) → (CPB 0 k.toInt eX eXa (fun j => eX (300 * x_5.toNatClampNeg + j))) → va_P (dC, dI) vwCl [(oM, .inr (12, [.ref mT, .int zt, .ref mS, .ref mX, .int x_2, .int zf, .ref mL, .ref mB, .ref mD, .ref m1, .ref m2, .int zh, .ref mR, .int zr, .ref x1, .ref x2, .ref x3, .int zc, .ref mH, .int zy, .int za, .int zb, .int zs, .int zq, .int zw, .int 0, .ref mY, .int zn, .ref mE, .int zm, .int zl, .ref mW, .int zk, .ref mO, .int zd, .ref y1, .ref y2, .ref y3, .ref y4, .ref mZ])), (mS, .inl (cI, 21, .inl f_7)), (mX, .inl (cI, 6300, .inl eXa))] H → va_D A [(oM, .inr (12, [.ref mT, .int zt, .ref mS, .ref mX, .int x_2, .int zf, .ref mL, .ref mB, .ref mD, .ref m1, .ref m2, .int zh, .ref mR, .int zr, .ref x1, .ref x2, .ref x3, .int zc, .ref mH, .int zy, .int za, .int zb, .int zs, .int zq, .int zw, .int 0, .ref mY, .int zn, .ref mE, .int zm, .int zl, .ref mW, .int zk, .ref mO, .int zd, .ref y1, .ref y2, .ref y3, .ref y4, .ref mZ])), (mS, .inl (cI, 21, .inl f_7)), (mX, .inl (cI, 6300, .inl eXa))] → va_S A s.heap H locs → lv_has ls 3 [(2, .int k), (1, .int x_5), (0, .ref oM)] → W p l e (headSpec wsX12_back ({ frames := 0, cells := 0, slots := 0, locals := 0 } : Room)).room s m ([.ref oM] : List Value).toArray below meth c H locs 0 0 (MQ below QQ ([.ref oM] : List Value).toArray s 0 0 A) (F0 m 53 ls []) := by
      intro k_53
      induction k_53 with
      | zero =>
        intro k eXa H locs ls hm_53 g_k g_eXa hks hcb hP hD hS hl
        exact absurd hm_53 (Nat.not_lt_zero _)
      | succ k_53 ih_53 =>
        intro k eXa H locs ls hm_53 g_k g_eXa hks hcb hP hD hS hl
        refine lv_iload_n hx hb dX12_back_53 rfl (lv_at hl 0 rfl) ?_
        refine lv_aload_n hx hb dX12_back_54 rfl (lv_at hl 2 rfl) ?_
        refine va_get (D := (dC, dI)) (ci := 12) (v := .ref mS) (C := RX12) (T := TX12) (N := 40) hx hb hts in_X12 hown hK hP 0 rfl rfl 2 (by decide) (hts (.fieldLink RX12 13 "TextMenderModel" "sizes" "[I") (List.mem_of_getElem? (i := 4) rfl)) (fun _ h9 => h9) rfl dX12_back_55 ?_
        refine lv_iconst (v := 0) hx hb dX12_back_58 (by decide) ?_
        refine va_iald hx hb hK hP 1 0 rfl rfl (by unfold vp_in; decide) dX12_back_59 ?_
        refine lv_topi (fun x_8 ex_8 => ?_)
        have tx_8 : 0 ≤ x_8.toInt ∧ x_8.toInt ≤ 300 := rg_at g_f7 ex_8
        have hs_x_8 : x_8 = x_6 := ub0 ef_7 ex_8
        have hi_x_8 : x_8.toInt = x_6.toInt := v_eq hs_x_8
        refine lv_icmp_ge (tgt := 87) hx hb dX12_back_60 (by decide) (fun c_9 => ?_) (fun c_9 => ?_)
        · have tc_9 : x_8.toInt ≤ k.toInt := v_le c_9
          refine lv_aload_n hx hb dX12_back_87 rfl (lv_at hl 2 rfl) ?_
          refine lv_dup hx hb dX12_back_88 rfl ?_
          refine va_get (D := (dC, dI)) (ci := 12) (v := .int zs) (C := RX12) (T := TX12) (N := 40) hx hb hts in_X12 hown hK hP 0 rfl rfl 22 (by decide) (hts (.fieldLink RX12 148 "TextMenderModel" "state" "I") (List.mem_of_getElem? (i := 6) rfl)) (fun _ h9 => h9) rfl dX12_back_89 ?_
          refine lv_iconst (v := 1) hx hb dX12_back_92 (by decide) ?_
          refine lv_iadd hx hb dX12_back_93 ?_
          refine lv_topi (fun x_10 ex_10 => ?_)
          have tx_10 : x_10.toInt = zs.toInt + 1 := v_add ex_10 (by show -2147483648 ≤ zs.toInt + 1; omega) (by show zs.toInt + 1 < 2147483648; omega)
          refine va_put (D := (dC, dI)) (ci := 12) (v := .int x_10) (ty := .int) (C := RX12) (T := TX12) (N := 40) hx hb hts in_X12 tyX12 tyX12_ok nmX12 hown hK hP hD hS 0 rfl rfl 22 (by decide) (hts (.fieldLink RX12 148 "TextMenderModel" "state" "I") (List.mem_of_getElem? (i := 6) rfl)) (fun _ h9 => h9) rfl (by decide +kernel) rfl rfl (Nat.le_of_ble_eq_true rfl) dX12_back_94 (fun H locs hP hD hS => ?_)
          have hP : va_P (dC, dI) vwCl [(oM, .inr (12, [.ref mT, .int zt, .ref mS, .ref mX, .int x_2, .int zf, .ref mL, .ref mB, .ref mD, .ref m1, .ref m2, .int zh, .ref mR, .int zr, .ref x1, .ref x2, .ref x3, .int zc, .ref mH, .int zy, .int za, .int zb, .int x_10, .int zq, .int zw, .int 0, .ref mY, .int zn, .ref mE, .int zm, .int zl, .ref mW, .int zk, .ref mO, .int zd, .ref y1, .ref y2, .ref y3, .ref y4, .ref mZ])), (mS, .inl (cI, 21, .inl f_7)), (mX, .inl (cI, 6300, .inl eXa))] H := hP
          have hD : va_D A [(oM, .inr (12, [.ref mT, .int zt, .ref mS, .ref mX, .int x_2, .int zf, .ref mL, .ref mB, .ref mD, .ref m1, .ref m2, .int zh, .ref mR, .int zr, .ref x1, .ref x2, .ref x3, .int zc, .ref mH, .int zy, .int za, .int zb, .int x_10, .int zq, .int zw, .int 0, .ref mY, .int zn, .ref mE, .int zm, .int zl, .ref mW, .int zk, .ref mO, .int zd, .ref y1, .ref y2, .ref y3, .ref y4, .ref mZ])), (mS, .inl (cI, 21, .inl f_7)), (mX, .inl (cI, 6300, .inl eXa))] := hD
          refine lv_aload_n hx hb dX12_back_97 rfl (lv_at hl 2 rfl) ?_
          refine va_get (D := (dC, dI)) (ci := 12) (v := .int x_2) (C := RX12) (T := TX12) (N := 40) hx hb hts in_X12 hown hK hP 0 rfl rfl 4 (by decide) (hts (.fieldLink RX12 142 "TextMenderModel" "past" "I") (List.mem_of_getElem? (i := 2) rfl)) (fun _ h9 => h9) rfl dX12_back_98 ?_
          have hP9 := hP.sub (ws' := [(oM, .inr (12, [.ref mT, .int zt, .ref mS, .ref mX, .int x_2, .int zf, .ref mL, .ref mB, .ref mD, .ref m1, .ref m2, .int zh, .ref mR, .int zr, .ref x1, .ref x2, .ref x3, .int zc, .ref mH, .int zy, .int za, .int zb, .int x_10, .int zq, .int zw, .int 0, .ref mY, .int zn, .ref mE, .int zm, .int zl, .ref mW, .int zk, .ref mO, .int zd, .ref y1, .ref y2, .ref y3, .ref y4, .ref mZ])), (mS, .inl (cI, 21, .inl f_7)), (mX, .inl (cI, 6300, .inl eXa))]) [0, 1, 2] rfl
          have hD9 := hD.sub (ws' := [(oM, .inr (12, [.ref mT, .int zt, .ref mS, .ref mX, .int x_2, .int zf, .ref mL, .ref mB, .ref mD, .ref m1, .ref m2, .int zh, .ref mR, .int zr, .ref x1, .ref x2, .ref x3, .int zc, .ref mH, .int zy, .int za, .int zb, .int x_10, .int zq, .int zw, .int 0, .ref mY, .int zn, .ref mE, .int zm, .int zl, .ref mW, .int zk, .ref mO, .int zd, .ref y1, .ref y2, .ref y3, .ref y4, .ref mZ])), (mS, .inl (cI, 21, .inl f_7)), (mX, .inl (cI, 6300, .inl eXa))]) [0, 1, 2] (by decide) rfl
          rw [hQQ]
          exact W.iret (v := x_2) hx hb hr (fun t ht hW => ⟨⟨x_2, x_2, rfl, rfl, ⟨0, x_2, f_7, eXa, x_10, by rw [ht]; exact hP9, hD9, by omega, g_f7, g_eXa, by omega, by show x_10.toInt ≤ zs.toInt + 1 ∧ zs.toInt ≤ x_10.toInt; omega, by first | exact Or.inl (by omega) | exact Or.inr ⟨rfl, rfl, rfl⟩, tbR_of (t := x_5) (by omega) (by omega) (by first | rfl | omega) (by omega) (by omega) ex_6 ef_7 hcb (by omega), by first | exact Or.inl ⟨by first | rfl | omega, rfl⟩ | exact Or.inr ⟨by first | decide | omega, by omega⟩⟩⟩, hS.F ht⟩) hS.2.2 dX12_back_101
        · have tc_9 : k.toInt < x_8.toInt := v_nle c_9
          refine lv_aload_n hx hb dX12_back_63 rfl (lv_at hl 2 rfl) ?_
          refine va_get (D := (dC, dI)) (ci := 12) (v := .ref mX) (C := RX12) (T := TX12) (N := 40) hx hb hts in_X12 hown hK hP 0 rfl rfl 3 (by decide) (hts (.fieldLink RX12 16 "TextMenderModel" "texts" "[I") (List.mem_of_getElem? (i := 5) rfl)) (fun _ h9 => h9) rfl dX12_back_64 ?_
          refine lv_iload_n hx hb dX12_back_67 rfl (lv_at hl 0 rfl) ?_
          refine lv_aload_n hx hb dX12_back_68 rfl (lv_at hl 2 rfl) ?_
          refine va_get (D := (dC, dI)) (ci := 12) (v := .ref mX) (C := RX12) (T := TX12) (N := 40) hx hb hts in_X12 hown hK hP 0 rfl rfl 3 (by decide) (hts (.fieldLink RX12 16 "TextMenderModel" "texts" "[I") (List.mem_of_getElem? (i := 5) rfl)) (fun _ h9 => h9) rfl dX12_back_69 ?_
          refine lv_sipush (v := 300) hx hb dX12_back_72 (by decide) ?_
          refine lv_iload_n hx hb dX12_back_75 rfl (lv_at hl 1 rfl) ?_
          refine lv_imul hx hb dX12_back_76 ?_
          refine lv_topi (fun x_11 ex_11 => ?_)
          have tx_11 : x_11.toInt = 300 * x_5.toInt := v_mul ex_11 (by show -2147483648 ≤ 300 * x_5.toInt; omega) (by show 300 * x_5.toInt < 2147483648; omega)
          refine lv_iload_n hx hb dX12_back_77 rfl (lv_at hl 0 rfl) ?_
          refine lv_iadd hx hb dX12_back_78 ?_
          refine lv_topi (fun x_12 ex_12 => ?_)
          have tx_12 : x_12.toInt = x_11.toInt + k.toInt := v_add ex_12 (by show -2147483648 ≤ x_11.toInt + k.toInt; omega) (by show x_11.toInt + k.toInt < 2147483648; omega)
          refine va_iald hx hb hK hP 2 0 rfl rfl (v_in (by omega)) dX12_back_79 ?_
          refine lv_topi (fun x_13 ex_13 => ?_)
          have tx_13 : 0 ≤ x_13.toInt ∧ x_13.toInt ≤ 65535 := rg_at g_eXa ex_13
          refine va_iast hx hb hK hP hD hS 2 0 rfl rfl (v_in (by omega)) dX12_back_80 (fun H locs hP hD hS => ?_)
          have hP : va_P (dC, dI) vwCl [(oM, .inr (12, [.ref mT, .int zt, .ref mS, .ref mX, .int x_2, .int zf, .ref mL, .ref mB, .ref mD, .ref m1, .ref m2, .int zh, .ref mR, .int zr, .ref x1, .ref x2, .ref x3, .int zc, .ref mH, .int zy, .int za, .int zb, .int zs, .int zq, .int zw, .int 0, .ref mY, .int zn, .ref mE, .int zm, .int zl, .ref mW, .int zk, .ref mO, .int zd, .ref y1, .ref y2, .ref y3, .ref y4, .ref mZ])), (mS, .inl (cI, 21, .inl f_7)), (mX, .inl (cI, 6300, .inl (upd eXa (k : Int32).toNatClampNeg x_13)))] H := hP
          have hD : va_D A [(oM, .inr (12, [.ref mT, .int zt, .ref mS, .ref mX, .int x_2, .int zf, .ref mL, .ref mB, .ref mD, .ref m1, .ref m2, .int zh, .ref mR, .int zr, .ref x1, .ref x2, .ref x3, .int zc, .ref mH, .int zy, .int za, .int zb, .int zs, .int zq, .int zw, .int 0, .ref mY, .int zn, .ref mE, .int zm, .int zl, .ref mW, .int zk, .ref mO, .int zd, .ref y1, .ref y2, .ref y3, .ref y4, .ref mZ])), (mS, .inl (cI, 21, .inl f_7)), (mX, .inl (cI, 6300, .inl (upd eXa (k : Int32).toNatClampNeg x_13)))] := hD
          obtain ⟨f_14, ef_14⟩ : ∃ g : Nat → Int32, g = upd eXa (k : Int32).toNatClampNeg x_13 := ⟨_, rfl⟩
          rw [← ef_14] at hP hD
          have g_f14 : rg 0 65535 f_14 := rg_upd ef_14 g_eXa (by omega)
          obtain ⟨x_15, ex_15⟩ : ∃ y : Int32, y = k + 1 := ⟨_, rfl⟩
          have tx_15 : x_15.toInt = k.toInt + 1 := v_add ex_15 (by show -2147483648 ≤ k.toInt + 1; omega) (by show k.toInt + 1 < 2147483648; omega)
          refine lv_iinc (v := x_15) (lv' := [(2, .int x_15), (1, .int x_5), (0, .ref oM)]) hx hb dX12_back_81 hl (k := 0) rfl (by rw [ex_15]; rfl) (by decide) rfl (fun ls hl => ?_)
          refine lv_goto (tgt := 53) hx hb dX12_back_84 (by decide) ?_
          exact ih_53 x_15 f_14 _ _ _ (by have hm9 := hm_53; show ((300 - x_15.toInt : Int)).toNat < k_53; omega) (by show 0 ≤ x_15.toInt ∧ x_15.toInt ≤ 300; omega) (g_f14) (by show x_15.toInt ≤ x_6.toInt; omega) (CPB_s (b := 0) hcb (by omega) (by omega) (ex_13.trans ((hcb.2 _ (by have c9 := v_clamp (x := x_12) (by omega); omega)).trans (by show eX _ = eX (300 * x_5.toNatClampNeg + k.toNatClampNeg); rw [ix_eq (x := x_12) (N := 300 * x_5.toNatClampNeg + k.toNatClampNeg) (by have c9 := v_clamp (x := k) (by omega); have c8 := v_clamp (x := x_5) (by omega); omega)]))) ef_14 (by omega) (by omega)) hP hD hS (lv_sub hl [0, 1, 2] rfl)
    exact LOOP_53 _ 0 eX _ _ _ (Nat.lt_succ_self _) (by decide) (g_eX) (by show 0 ≤ x_6.toInt; omega) (CPB_0 (by decide)) hP hD hS (lv_sub hl [0, 1, 2] rfl)
  · have tc_1 : zp.toInt = 0 := v_eq c_1
    refine lv_iconst (v := (-1)) hx hb dX12_back_12 (by decide) ?_
    have hP9 := hP.sub (ws' := [(oM, .inr (12, [.ref mT, .int zt, .ref mS, .ref mX, .int zp, .int zf, .ref mL, .ref mB, .ref mD, .ref m1, .ref m2, .int zh, .ref mR, .int zr, .ref x1, .ref x2, .ref x3, .int zc, .ref mH, .int zy, .int za, .int zb, .int zs, .int zq, .int zw, .int 0, .ref mY, .int zn, .ref mE, .int zm, .int zl, .ref mW, .int zk, .ref mO, .int zd, .ref y1, .ref y2, .ref y3, .ref y4, .ref mZ])), (mS, .inl (cI, 21, .inl eS)), (mX, .inl (cI, 6300, .inl eX))]) [0, 1, 2] rfl
    have hD9 := hD.sub (ws' := [(oM, .inr (12, [.ref mT, .int zt, .ref mS, .ref mX, .int zp, .int zf, .ref mL, .ref mB, .ref mD, .ref m1, .ref m2, .int zh, .ref mR, .int zr, .ref x1, .ref x2, .ref x3, .int zc, .ref mH, .int zy, .int za, .int zb, .int zs, .int zq, .int zw, .int 0, .ref mY, .int zn, .ref mE, .int zm, .int zl, .ref mW, .int zk, .ref mO, .int zd, .ref y1, .ref y2, .ref y3, .ref y4, .ref mZ])), (mS, .inl (cI, 21, .inl eS)), (mX, .inl (cI, 6300, .inl eX))]) [0, 1, 2] (by decide) rfl
    rw [hQQ]
    exact W.iret (v := (-1)) hx hb hr (fun t ht hW => ⟨⟨(-1), (-1), rfl, rfl, ⟨0, zp, eS, eX, zs, by rw [ht]; exact hP9, hD9, by omega, g_eS, g_eX, by omega, by show zs.toInt ≤ zs.toInt + 1 ∧ zs.toInt ≤ zs.toInt; omega, by first | exact Or.inl (by omega) | exact Or.inr ⟨rfl, rfl, rfl⟩, Or.inr ⟨by omega, rfl, rfl, rfl, rfl⟩, by first | exact Or.inl ⟨by first | rfl | omega, rfl⟩ | exact Or.inr ⟨by first | decide | omega, by omega⟩⟩⟩, hS.F ht⟩) hS.2.2 dX12_back_13

set_option maxHeartbeats 40000000 in
set_option maxRecDepth 100000 in
theorem f_X11_back (l : Launch) (dC : Nat → ClassId) (dI : Nat → Nat → Nat) (cI cS : ClassId) (sz : Nat) (oX : Nat) (nT : Nat) (nL : Nat) (nM : Nat) (oC : Nat) (oP : Nat) (oH : Nat) (oK : Nat) (oG : Nat) (oR : Nat) (oQ : Nat) (oW : Nat) (aL : Nat) (g1 : Nat) (g2 : Nat) (nw : Nat) (w1 : Nat) (w2 : Nat) (w3 : Nat) (o7 : Nat) (o8 : Nat) (o9 : Nat) (w4 : Nat) (w5 : Nat) (w6 : Nat) (w7 : Nat) (fa : Int32) (lL : Int32) (fL : Nat → Int32) (gn : Int32) (lG : Int32) (fG1 : Nat → Int32) (fG2 : Nat → Int32) (ke : Int32) (tl : Int32) (fsh : Int32) (wi : Int32) (ri : Int32) (fm : Int32) (lm : Int32) (g_lL : 0 ≤ lL.toInt ∧ lL.toInt ≤ 300) (g_gn : 0 ≤ gn.toInt ∧ gn.toInt ≤ 19) (g_lG : 0 ≤ lG.toInt ∧ lG.toInt ≤ 20) (g_fG2 : rg 0 300 fG2) (g_ke : 0 ≤ ke.toInt ∧ ke.toInt ≤ 200) (g_fsh : 0 ≤ fsh.toInt ∧ fsh.toInt ≤ 1) (g_fm : -1 ≤ fm.toInt ∧ fm.toInt ≤ 800) (g_lm : -1 ≤ lm.toInt ∧ lm.toInt ≤ 800) : Met l yX11_back wsX11_back ({ frames := 2, cells := 0, slots := 0, locals := 43 } : Room) (va_Pc [.ref oX] (fun U => U.heap.size = sz ∧ va_P (dC, dI) vwCl [(oX, .inr (11, [.ref nT, .ref nL, .ref nM, .ref oC, .ref oP, .ref oH, .ref oK, .ref oG, .ref oR, .ref oQ, .ref oW, .int fa])), (nL, .inr (5, [.ref aL, .int lL])), (aL, .inl (cI, 300, .inl fL)), (oG, .inr (0, [.ref g1, .ref g2, .int gn, .int lG])), (g1, .inl (cI, 6000, .inl fG1)), (g2, .inl (cI, 20, .inl fG2)), (oW, .inr (1, [.ref oC, .ref oK, .ref nw, .ref w1, .ref w2, .ref w3, .ref o7, .ref o8, .ref o9, .ref w4, .ref w5, .ref w6, .ref w7, .int ke, .int tl, .int fsh, .int wi, .int ri, .int fm, .int lm]))] U.heap ∧ va_K (dC, dI) vwCl [(cI, .int), (cS, .short)] U ∧ va_D (fun _ => True) [(oX, .inr (11, [.ref nT, .ref nL, .ref nM, .ref oC, .ref oP, .ref oH, .ref oK, .ref oG, .ref oR, .ref oQ, .ref oW, .int fa])), (nL, .inr (5, [.ref aL, .int lL])), (aL, .inl (cI, 300, .inl fL)), (oG, .inr (0, [.ref g1, .ref g2, .int gn, .int lG])), (g1, .inl (cI, 6000, .inl fG1)), (g2, .inl (cI, 20, .inl fG2)), (oW, .inr (1, [.ref oC, .ref oK, .ref nw, .ref w1, .ref w2, .ref w3, .ref o7, .ref o8, .ref o9, .ref w4, .ref w5, .ref w6, .ref w7, .int ke, .int tl, .int fsh, .int wi, .int ri, .int fm, .int lm]))])) (va_Qi (fun (r : Int32) (u : Int32) => r = u) (fun (r : Int32) t => ∃ (lL' : Int32) (fL' : Nat → Int32) (fsh' : Int32) (gn' : Int32) (lG' : Int32), va_P (dC, dI) vwCl [(oX, .inr (11, [.ref nT, .ref nL, .ref nM, .ref oC, .ref oP, .ref oH, .ref oK, .ref oG, .ref oR, .ref oQ, .ref oW, .int fa])), (nL, .inr (5, [.ref aL, .int lL'])), (aL, .inl (cI, 300, .inl fL')), (oG, .inr (0, [.ref g1, .ref g2, .int gn', .int lG'])), (g1, .inl (cI, 6000, .inl fG1)), (g2, .inl (cI, 20, .inl fG2)), (oW, .inr (1, [.ref oC, .ref oK, .ref nw, .ref w1, .ref w2, .ref w3, .ref o7, .ref o8, .ref o9, .ref w4, .ref w5, .ref w6, .ref w7, .int ke, .int tl, .int fsh', .int wi, .int ri, .int fm, .int lm]))] t.heap ∧ va_D (va_A [(oX, .inr (11, [.ref nT, .ref nL, .ref nM, .ref oC, .ref oP, .ref oH, .ref oK, .ref oG, .ref oR, .ref oQ, .ref oW, .int fa])), (nL, .inr (5, [.ref aL, .int lL])), (aL, .inl (cI, 300, .inl fL)), (oG, .inr (0, [.ref g1, .ref g2, .int gn, .int lG])), (g1, .inl (cI, 6000, .inl fG1)), (g2, .inl (cI, 20, .inl fG2)), (oW, .inr (1, [.ref oC, .ref oK, .ref nw, .ref w1, .ref w2, .ref w3, .ref o7, .ref o8, .ref o9, .ref w4, .ref w5, .ref w6, .ref w7, .int ke, .int tl, .int fsh, .int wi, .int ri, .int fm, .int lm]))] sz) [(oX, .inr (11, [.ref nT, .ref nL, .ref nM, .ref oC, .ref oP, .ref oH, .ref oK, .ref oG, .ref oR, .ref oQ, .ref oW, .int fa])), (nL, .inr (5, [.ref aL, .int lL'])), (aL, .inl (cI, 300, .inl fL')), (oG, .inr (0, [.ref g1, .ref g2, .int gn', .int lG'])), (g1, .inl (cI, 6000, .inl fG1)), (g2, .inl (cI, 20, .inl fG2)), (oW, .inr (1, [.ref oC, .ref oK, .ref nw, .ref w1, .ref w2, .ref w3, .ref o7, .ref o8, .ref o9, .ref w4, .ref w5, .ref w6, .ref w7, .int ke, .int tl, .int fsh', .int wi, .int ri, .int fm, .int lm]))] ∧ (0 ≤ lL'.toInt ∧ lL'.toInt ≤ 300) ∧ (0 ≤ fsh'.toInt ∧ fsh'.toInt ≤ 1) ∧ (0 ≤ gn'.toInt ∧ gn'.toInt ≤ 19) ∧ (0 ≤ lG'.toInt ∧ lG'.toInt ≤ 20) ∧ (F_bk r gn gn' lG lG' lL lL' fG1 fG2 fL fL') ∧ (F_fs (-1) r fsh fsh')) (va_A [(oX, .inr (11, [.ref nT, .ref nL, .ref nM, .ref oC, .ref oP, .ref oH, .ref oK, .ref oG, .ref oR, .ref oQ, .ref oW, .int fa])), (nL, .inr (5, [.ref aL, .int lL])), (aL, .inl (cI, 300, .inl fL)), (oG, .inr (0, [.ref g1, .ref g2, .int gn, .int lG])), (g1, .inl (cI, 6000, .inl fG1)), (g2, .inl (cI, 20, .inl fG2)), (oW, .inr (1, [.ref oC, .ref oK, .ref nw, .ref w1, .ref w2, .ref w3, .ref o7, .ref o8, .ref o9, .ref w4, .ref w5, .ref w6, .ref w7, .int ke, .int tl, .int fsh, .int wi, .int ri, .int fm, .int lm]))] sz)) 0 0 (va_A [(oX, .inr (11, [.ref nT, .ref nL, .ref nM, .ref oC, .ref oP, .ref oH, .ref oK, .ref oG, .ref oR, .ref oQ, .ref oW, .int fa])), (nL, .inr (5, [.ref aL, .int lL])), (aL, .inl (cI, 300, .inl fL)), (oG, .inr (0, [.ref g1, .ref g2, .int gn, .int lG])), (g1, .inl (cI, 6000, .inl fG1)), (g2, .inl (cI, 20, .inl fG2)), (oW, .inr (1, [.ref oC, .ref oK, .ref nw, .ref w1, .ref w2, .ref w3, .ref o7, .ref o8, .ref o9, .ref w4, .ref w5, .ref w6, .ref w7, .int ke, .int tl, .int fsh, .int wi, .int ri, .int fm, .int lm]))] sz) := by
  refine Met.ofW (cc := cX11_back) (maxL := 1) (ret := (some .int)) (by decide) rfl ?_
  intro p e s m args below meth c s₁ B hml hv
  obtain ⟨rfl, hsz, hP, hK, hD0⟩ := hv
  have hx := B.exec
  have hb := B.bytes
  have hr := B.returns
  have hts := atoms_spec (ws := wsX11_back) B.pre
  have hown : s.vm.findClass RX11 = some m.cls := findClass_of_methodNamed B.named
  have hlocks := B.notSynchronized
  have in_X11 : ∀ w ∈ wsX110, w ∈ wsX11_back := fun _ h => List.mem_cons_of_mem _ (List.mem_append_left _ (List.mem_append_left _ (List.mem_append_left _ (List.mem_append_right _ (h)))))
  subst hsz
  have hD := hD0.self (sz := s.heap.size)
  generalize hAe : va_A [(oX, .inr (11, [.ref nT, .ref nL, .ref nM, .ref oC, .ref oP, .ref oH, .ref oK, .ref oG, .ref oR, .ref oQ, .ref oW, .int fa])), (nL, .inr (5, [.ref aL, .int lL])), (aL, .inl (cI, 300, .inl fL)), (oG, .inr (0, [.ref g1, .ref g2, .int gn, .int lG])), (g1, .inl (cI, 6000, .inl fG1)), (g2, .inl (cI, 20, .inl fG2)), (oW, .inr (1, [.ref oC, .ref oK, .ref nw, .ref w1, .ref w2, .ref w3, .ref o7, .ref o8, .ref o9, .ref w4, .ref w5, .ref w6, .ref w7, .int ke, .int tl, .int fsh, .int wi, .int ri, .int fm, .int lm]))] s.heap.size = A at hD ⊢
  have hA : ∀ q : Nat, s.heap.size ≤ q → A q := fun q h => by rw [← hAe]; exact Or.inr h
  have hS : va_S A s.heap s.heap [] := va_S.rf
  have hP : va_P (dC, dI) vwCl [(oX, .inr (11, [.ref nT, .ref nL, .ref nM, .ref oC, .ref oP, .ref oH, .ref oK, .ref oG, .ref oR, .ref oQ, .ref oW, .int fa])), (nL, .inr (5, [.ref aL, .int lL])), (aL, .inl (cI, 300, .inl fL)), (oG, .inr (0, [.ref g1, .ref g2, .int gn, .int lG])), (g1, .inl (cI, 6000, .inl fG1)), (g2, .inl (cI, 20, .inl fG2)), (oW, .inr (1, [.ref oC, .ref oK, .ref nw, .ref w1, .ref w2, .ref w3, .ref o7, .ref o8, .ref o9, .ref w4, .ref w5, .ref w6, .ref w7, .int ke, .int tl, .int fsh, .int wi, .int ri, .int fm, .int lm]))] s.heap := hP
  have hl := lv_entry ([.ref oX]) (n := 1) (Nat.le_of_ble_eq_true rfl)
  rw [lg_entry_eq]
  generalize (lg_sl ([.ref oX]) ++ List.replicate (1 - (lg_sl ([.ref oX])).length) Slot.unset).toArray = ls at hl ⊢
  have hl : lv_has ls 1 [(0, .ref oX)] := hl
  obtain ⟨QQ, hQQ⟩ : ∃ QQ : Array Value → State → Outcome → State → Prop, QQ = va_Qi (fun (r : Int32) (u : Int32) => r = u) (fun (r : Int32) t => ∃ (lL' : Int32) (fL' : Nat → Int32) (fsh' : Int32) (gn' : Int32) (lG' : Int32), va_P (dC, dI) vwCl [(oX, .inr (11, [.ref nT, .ref nL, .ref nM, .ref oC, .ref oP, .ref oH, .ref oK, .ref oG, .ref oR, .ref oQ, .ref oW, .int fa])), (nL, .inr (5, [.ref aL, .int lL'])), (aL, .inl (cI, 300, .inl fL')), (oG, .inr (0, [.ref g1, .ref g2, .int gn', .int lG'])), (g1, .inl (cI, 6000, .inl fG1)), (g2, .inl (cI, 20, .inl fG2)), (oW, .inr (1, [.ref oC, .ref oK, .ref nw, .ref w1, .ref w2, .ref w3, .ref o7, .ref o8, .ref o9, .ref w4, .ref w5, .ref w6, .ref w7, .int ke, .int tl, .int fsh', .int wi, .int ri, .int fm, .int lm]))] t.heap ∧ va_D A [(oX, .inr (11, [.ref nT, .ref nL, .ref nM, .ref oC, .ref oP, .ref oH, .ref oK, .ref oG, .ref oR, .ref oQ, .ref oW, .int fa])), (nL, .inr (5, [.ref aL, .int lL'])), (aL, .inl (cI, 300, .inl fL')), (oG, .inr (0, [.ref g1, .ref g2, .int gn', .int lG'])), (g1, .inl (cI, 6000, .inl fG1)), (g2, .inl (cI, 20, .inl fG2)), (oW, .inr (1, [.ref oC, .ref oK, .ref nw, .ref w1, .ref w2, .ref w3, .ref o7, .ref o8, .ref o9, .ref w4, .ref w5, .ref w6, .ref w7, .int ke, .int tl, .int fsh', .int wi, .int ri, .int fm, .int lm]))] ∧ (0 ≤ lL'.toInt ∧ lL'.toInt ≤ 300) ∧ (0 ≤ fsh'.toInt ∧ fsh'.toInt ≤ 1) ∧ (0 ≤ gn'.toInt ∧ gn'.toInt ≤ 19) ∧ (0 ≤ lG'.toInt ∧ lG'.toInt ≤ 20) ∧ (F_bk r gn gn' lG lG' lL lL' fG1 fG2 fL fL') ∧ (F_fs (-1) r fsh fsh')) A := ⟨_, rfl⟩
  rw [← hQQ]
  refine lv_aload_n hx hb dX11_back_0 rfl (lv_at hl 0 rfl) ?_
  refine va_get (D := (dC, dI)) (ci := 11) (v := .ref oG) (C := RX11) (T := TX11) (N := 12) hx hb hts in_X11 hown hK hP 0 rfl rfl 7 (by decide) (hts (.fieldLink RX11 59 "TextMender" "changes" "LTextMender$Changes;") (List.mem_of_getElem? (i := 1) rfl)) (fun _ h9 => h9) rfl dX11_back_1 ?_
  refine lv_aload_n hx hb dX11_back_4 rfl (lv_at hl 0 rfl) ?_
  refine va_get (D := (dC, dI)) (ci := 11) (v := .ref nL) (C := RX11) (T := TX11) (N := 12) hx hb hts in_X11 hown hK hP 0 rfl rfl 1 (by decide) (hts (.fieldLink RX11 34 "TextMender" "letters" "LTextMender$Numbers;") (List.mem_of_getElem? (i := 2) rfl)) (fun _ h9 => h9) rfl dX11_back_5 ?_
  have hPc := hP.sub (ws' := [(oG, .inr (0, [.ref g1, .ref g2, .int gn, .int lG])), (g1, .inl (cI, 6000, .inl fG1)), (g2, .inl (cI, 20, .inl fG2)), (nL, .inr (5, [.ref aL, .int lL])), (aL, .inl (cI, 300, .inl fL))]) [3, 4, 5, 1, 2] rfl
  have hDc := hD.sub (ws' := [(oG, .inr (0, [.ref g1, .ref g2, .int gn, .int lG])), (g1, .inl (cI, 6000, .inl fG1)), (g2, .inl (cI, 20, .inl fG2)), (nL, .inr (5, [.ref aL, .int lL])), (aL, .inl (cI, 300, .inl fL))]) [3, 4, 5, 1, 2] (by decide) rfl
  have hFc := va_free (wc := [(oG, .inr (0, [.ref g1, .ref g2, .int gn, .int lG])), (g1, .inl (cI, 6000, .inl fG1)), (g2, .inl (cI, 20, .inl fG2)), (nL, .inr (5, [.ref aL, .int lL])), (aL, .inl (cI, 300, .inl fL))]) hD hS hA [3, 4, 5, 1, 2] rfl
  refine va_calli (va_runV (As := [.ref nL]) (rest := []) ⟨hx, hb, hml, hown, hts⟩ (f_X0_takeBack l dC dI cI cS s.heap.size oG nL g1 g2 aL gn lG fG1 fG2 lL fL (by omega) (by omega) (g_fG2) (by omega)) (cwV 1 hts gX11_back_X0_takeBack rfl rfl rfl (by decide +kernel) ⟨Nat.le_of_ble_eq_true rfl, Nat.le_of_ble_eq_true rfl⟩) ⟨fun a U g mk q => by obtain ⟨q0, q1, qP, qK, qD⟩ := q; exact ⟨q0, q1, qP, va_K.moved (u := U) (U := U.calling g mk a) (Vm.Alike.refl U.vm) qK, qD⟩, va_recv hK hPc (ci := 0) (q0 := 0) rfl rfl, fun U hU hW => ⟨rfl, by rw [hU], by rw [hU]; exact hPc, va_K.moved hW.alike hK, hDc.weaken (fun _ _ _ _ => trivial)⟩⟩ rfl rfl hl.1 rfl (lv_room (Nat.le_of_ble_eq_true rfl)) dX11_back_8 ⟨Nat.le_of_ble_eq_true rfl, Nat.le_of_ble_eq_true rfl⟩) hS (fun q _ h => hFc q h) hFc (fun r_1 u t H1 locs ht hvm hw hB hz1 hk1 hS => ?_)
  subst hw
  obtain ⟨gn_1, lG_1, ld_1, fd_1, hP1, hD1, hf1_0, hf1_1, hf1_2, hf1_3, hf1_4⟩ := hB
  rw [ht] at hP1
  obtain ⟨hP, hD⟩ := va_join (wr := [(oX, .inr (11, [.ref nT, .ref nL, .ref nM, .ref oC, .ref oP, .ref oH, .ref oK, .ref oG, .ref oR, .ref oQ, .ref oW, .int fa])), (oW, .inr (1, [.ref oC, .ref oK, .ref nw, .ref w1, .ref w2, .ref w3, .ref o7, .ref o8, .ref o9, .ref w4, .ref w5, .ref w6, .ref w7, .int ke, .int tl, .int fsh, .int wi, .int ri, .int fm, .int lm]))]) (w1 := [(oG, .inr (0, [.ref g1, .ref g2, .int gn_1, .int lG_1])), (g1, .inl (cI, 6000, .inl fG1)), (g2, .inl (cI, 20, .inl fG2)), (nL, .inr (5, [.ref aL, .int ld_1])), (aL, .inl (cI, 300, .inl fd_1))]) hP hD [3, 4, 5, 1, 2] [0, 6] rfl rfl (by decide) (by decide) hk1 hFc hP1 hD1
  generalize H1 = H at hP hS ⊢
  have hP : va_P (dC, dI) vwCl [(oX, .inr (11, [.ref nT, .ref nL, .ref nM, .ref oC, .ref oP, .ref oH, .ref oK, .ref oG, .ref oR, .ref oQ, .ref oW, .int fa])), (oW, .inr (1, [.ref oC, .ref oK, .ref nw, .ref w1, .ref w2, .ref w3, .ref o7, .ref o8, .ref o9, .ref w4, .ref w5, .ref w6, .ref w7, .int ke, .int tl, .int fsh, .int wi, .int ri, .int fm, .int lm])), (oG, .inr (0, [.ref g1, .ref g2, .int gn_1, .int lG_1])), (g1, .inl (cI, 6000, .inl fG1)), (g2, .inl (cI, 20, .inl fG2)), (nL, .inr (5, [.ref aL, .int ld_1])), (aL, .inl (cI, 300, .inl fd_1))] H := hP
  have hD : va_D A [(oX, .inr (11, [.ref nT, .ref nL, .ref nM, .ref oC, .ref oP, .ref oH, .ref oK, .ref oG, .ref oR, .ref oQ, .ref oW, .int fa])), (oW, .inr (1, [.ref oC, .ref oK, .ref nw, .ref w1, .ref w2, .ref w3, .ref o7, .ref o8, .ref o9, .ref w4, .ref w5, .ref w6, .ref w7, .int ke, .int tl, .int fsh, .int wi, .int ri, .int fm, .int lm])), (oG, .inr (0, [.ref g1, .ref g2, .int gn_1, .int lG_1])), (g1, .inl (cI, 6000, .inl fG1)), (g2, .inl (cI, 20, .inl fG2)), (nL, .inr (5, [.ref aL, .int ld_1])), (aL, .inl (cI, 300, .inl fd_1))] := hD
  refine lv_if_ne (tgt := 16) hx hb dX11_back_11 (by decide) (fun c_2 => ?_) (fun c_2 => ?_)
  · have tc_2 : ¬ r_1.toInt = 0 := v_ne c_2
    refine lv_aload_n hx hb dX11_back_16 rfl (lv_at hl 0 rfl) ?_
    refine va_get (D := (dC, dI)) (ci := 11) (v := .ref oW) (C := RX11) (T := TX11) (N := 12) hx hb hts in_X11 hown hK hP 0 rfl rfl 10 (by decide) (hts (.fieldLink RX11 86 "TextMender" "choiceBook" "LTextMender$Choices;") (List.mem_of_getElem? (i := 3) rfl)) (fun _ h9 => h9) rfl dX11_back_17 ?_
    have hPc := hP.sub (ws' := [(oW, .inr (1, [.ref oC, .ref oK, .ref nw, .ref w1, .ref w2, .ref w3, .ref o7, .ref o8, .ref o9, .ref w4, .ref w5, .ref w6, .ref w7, .int ke, .int tl, .int fsh, .int wi, .int ri, .int fm, .int lm]))]) [1] rfl
    have hDc := hD.sub (ws' := [(oW, .inr (1, [.ref oC, .ref oK, .ref nw, .ref w1, .ref w2, .ref w3, .ref o7, .ref o8, .ref o9, .ref w4, .ref w5, .ref w6, .ref w7, .int ke, .int tl, .int fsh, .int wi, .int ri, .int fm, .int lm]))]) [1] (by decide) rfl
    have hFc := va_free (wc := [(oW, .inr (1, [.ref oC, .ref oK, .ref nw, .ref w1, .ref w2, .ref w3, .ref o7, .ref o8, .ref o9, .ref w4, .ref w5, .ref w6, .ref w7, .int ke, .int tl, .int fsh, .int wi, .int ri, .int fm, .int lm]))]) hD hS hA [1] rfl
    refine va_callv (va_runV (As := []) (rest := []) ⟨hx, hb, hml, hown, hts⟩ (f_X1_forgetFreshness l dC dI cI cS H.size oW oC oK nw w1 w2 w3 o7 o8 o9 w4 w5 w6 w7 ke tl fsh wi ri fm lm (by omega) (by omega) (by omega) (by omega)) (cwV 0 hts gX11_back_X1_forgetFreshness rfl rfl rfl (by decide +kernel) ⟨Nat.le_of_ble_eq_true rfl, Nat.le_of_ble_eq_true rfl⟩) ⟨fun a U g mk q => by obtain ⟨q0, q1, qP, qK, qD⟩ := q; exact ⟨q0, q1, qP, va_K.moved (u := U) (U := U.calling g mk a) (Vm.Alike.refl U.vm) qK, qD⟩, va_recv hK hPc (ci := 1) (q0 := 0) rfl rfl, fun U hU hW => ⟨rfl, by rw [hU], by rw [hU]; exact hPc, va_K.moved hW.alike hK, hDc.weaken (fun _ _ _ _ => trivial)⟩⟩ rfl rfl hl.1 rfl (lv_room (Nat.le_of_ble_eq_true rfl)) dX11_back_20 ⟨Nat.le_of_ble_eq_true rfl, Nat.le_of_ble_eq_true rfl⟩) hS (fun q _ h => hFc q h) hFc (fun u t H1 locs ht hvm hw hB hz1 hk1 hS => ?_)
    obtain ⟨fsh_3, hP1, hD1, hf3_0, hf3_1⟩ := hB
    rw [ht] at hP1
    obtain ⟨hP, hD⟩ := va_join (wr := [(oX, .inr (11, [.ref nT, .ref nL, .ref nM, .ref oC, .ref oP, .ref oH, .ref oK, .ref oG, .ref oR, .ref oQ, .ref oW, .int fa])), (oG, .inr (0, [.ref g1, .ref g2, .int gn_1, .int lG_1])), (g1, .inl (cI, 6000, .inl fG1)), (g2, .inl (cI, 20, .inl fG2)), (nL, .inr (5, [.ref aL, .int ld_1])), (aL, .inl (cI, 300, .inl fd_1))]) (w1 := [(oW, .inr (1, [.ref oC, .ref oK, .ref nw, .ref w1, .ref w2, .ref w3, .ref o7, .ref o8, .ref o9, .ref w4, .ref w5, .ref w6, .ref w7, .int ke, .int tl, .int fsh_3, .int wi, .int ri, .int fm, .int lm]))]) hP hD [1] [0, 2, 3, 4, 5, 6] rfl rfl (by decide) (by decide) hk1 hFc hP1 hD1
    generalize H1 = H at hP hS ⊢
    have hP : va_P (dC, dI) vwCl [(oX, .inr (11, [.ref nT, .ref nL, .ref nM, .ref oC, .ref oP, .ref oH, .ref oK, .ref oG, .ref oR, .ref oQ, .ref oW, .int fa])), (oG, .inr (0, [.ref g1, .ref g2, .int gn_1, .int lG_1])), (g1, .inl (cI, 6000, .inl fG1)), (g2, .inl (cI, 20, .inl fG2)), (nL, .inr (5, [.ref aL, .int ld_1])), (aL, .inl (cI, 300, .inl fd_1)), (oW, .inr (1, [.ref oC, .ref oK, .ref nw, .ref w1, .ref w2, .ref w3, .ref o7, .ref o8, .ref o9, .ref w4, .ref w5, .ref w6, .ref w7, .int ke, .int tl, .int fsh_3, .int wi, .int ri, .int fm, .int lm]))] H := hP
    have hD : va_D A [(oX, .inr (11, [.ref nT, .ref nL, .ref nM, .ref oC, .ref oP, .ref oH, .ref oK, .ref oG, .ref oR, .ref oQ, .ref oW, .int fa])), (oG, .inr (0, [.ref g1, .ref g2, .int gn_1, .int lG_1])), (g1, .inl (cI, 6000, .inl fG1)), (g2, .inl (cI, 20, .inl fG2)), (nL, .inr (5, [.ref aL, .int ld_1])), (aL, .inl (cI, 300, .inl fd_1)), (oW, .inr (1, [.ref oC, .ref oK, .ref nw, .ref w1, .ref w2, .ref w3, .ref o7, .ref o8, .ref o9, .ref w4, .ref w5, .ref w6, .ref w7, .int ke, .int tl, .int fsh_3, .int wi, .int ri, .int fm, .int lm]))] := hD
    refine lv_aload_n hx hb dX11_back_23 rfl (lv_at hl 0 rfl) ?_
    refine va_get (D := (dC, dI)) (ci := 11) (v := .ref oG) (C := RX11) (T := TX11) (N := 12) hx hb hts in_X11 hown hK hP 0 rfl rfl 7 (by decide) (hts (.fieldLink RX11 59 "TextMender" "changes" "LTextMender$Changes;") (List.mem_of_getElem? (i := 1) rfl)) (fun _ h9 => h9) rfl dX11_back_24 ?_
    have hPc := hP.sub (ws' := [(oG, .inr (0, [.ref g1, .ref g2, .int gn_1, .int lG_1]))]) [1] rfl
    have hDc := hD.sub (ws' := [(oG, .inr (0, [.ref g1, .ref g2, .int gn_1, .int lG_1]))]) [1] (by decide) rfl
    have hFc := va_free (wc := [(oG, .inr (0, [.ref g1, .ref g2, .int gn_1, .int lG_1]))]) hD hS hA [1] rfl
    refine va_calli (va_runV (As := []) (rest := []) ⟨hx, hb, hml, hown, hts⟩ (m_X0_length l dC dI cI cS H.size oG g1 g2 gn_1 lG_1 (by omega) (by omega)) (cwV 0 hts gX11_back_X0_length rfl rfl rfl (by decide +kernel) ⟨Nat.le_of_ble_eq_true rfl, Nat.le_of_ble_eq_true rfl⟩) ⟨fun a U g mk q => by obtain ⟨q0, q1, qP, qK, qD⟩ := q; exact ⟨q0, q1, qP, va_K.moved (u := U) (U := U.calling g mk a) (Vm.Alike.refl U.vm) qK, qD⟩, va_recv hK hPc (ci := 0) (q0 := 0) rfl rfl, fun U hU hW => ⟨rfl, by rw [hU], by rw [hU]; exact hPc, va_K.moved hW.alike hK, hDc.weaken (fun _ _ _ _ => trivial)⟩⟩ rfl rfl hl.1 rfl (lv_room (Nat.le_of_ble_eq_true rfl)) dX11_back_27 ⟨Nat.le_of_ble_eq_true rfl, Nat.le_of_ble_eq_true rfl⟩) hS (fun q _ h => hFc q h) hFc (fun r_4 u t H1 locs ht hvm hw hB hz1 hk1 hS => ?_)
    subst hw
    obtain ⟨hP1, hD1, hf4_0⟩ := hB
    rw [ht] at hP1
    obtain ⟨hP, hD⟩ := va_join (wr := [(oX, .inr (11, [.ref nT, .ref nL, .ref nM, .ref oC, .ref oP, .ref oH, .ref oK, .ref oG, .ref oR, .ref oQ, .ref oW, .int fa])), (g1, .inl (cI, 6000, .inl fG1)), (g2, .inl (cI, 20, .inl fG2)), (nL, .inr (5, [.ref aL, .int ld_1])), (aL, .inl (cI, 300, .inl fd_1)), (oW, .inr (1, [.ref oC, .ref oK, .ref nw, .ref w1, .ref w2, .ref w3, .ref o7, .ref o8, .ref o9, .ref w4, .ref w5, .ref w6, .ref w7, .int ke, .int tl, .int fsh_3, .int wi, .int ri, .int fm, .int lm]))]) (w1 := [(oG, .inr (0, [.ref g1, .ref g2, .int gn_1, .int lG_1]))]) hP hD [1] [0, 2, 3, 4, 5, 6] rfl rfl (by decide) (by decide) hk1 hFc hP1 hD1
    generalize H1 = H at hP hS ⊢
    have hP : va_P (dC, dI) vwCl [(oX, .inr (11, [.ref nT, .ref nL, .ref nM, .ref oC, .ref oP, .ref oH, .ref oK, .ref oG, .ref oR, .ref oQ, .ref oW, .int fa])), (g1, .inl (cI, 6000, .inl fG1)), (g2, .inl (cI, 20, .inl fG2)), (nL, .inr (5, [.ref aL, .int ld_1])), (aL, .inl (cI, 300, .inl fd_1)), (oW, .inr (1, [.ref oC, .ref oK, .ref nw, .ref w1, .ref w2, .ref w3, .ref o7, .ref o8, .ref o9, .ref w4, .ref w5, .ref w6, .ref w7, .int ke, .int tl, .int fsh_3, .int wi, .int ri, .int fm, .int lm])), (oG, .inr (0, [.ref g1, .ref g2, .int gn_1, .int lG_1]))] H := hP
    have hD : va_D A [(oX, .inr (11, [.ref nT, .ref nL, .ref nM, .ref oC, .ref oP, .ref oH, .ref oK, .ref oG, .ref oR, .ref oQ, .ref oW, .int fa])), (g1, .inl (cI, 6000, .inl fG1)), (g2, .inl (cI, 20, .inl fG2)), (nL, .inr (5, [.ref aL, .int ld_1])), (aL, .inl (cI, 300, .inl fd_1)), (oW, .inr (1, [.ref oC, .ref oK, .ref nw, .ref w1, .ref w2, .ref w3, .ref o7, .ref o8, .ref o9, .ref w4, .ref w5, .ref w6, .ref w7, .int ke, .int tl, .int fsh_3, .int wi, .int ri, .int fm, .int lm])), (oG, .inr (0, [.ref g1, .ref g2, .int gn_1, .int lG_1]))] := hD
    rw [hf4_0]
    have hP9 := hP.sub (ws' := [(oX, .inr (11, [.ref nT, .ref nL, .ref nM, .ref oC, .ref oP, .ref oH, .ref oK, .ref oG, .ref oR, .ref oQ, .ref oW, .int fa])), (nL, .inr (5, [.ref aL, .int ld_1])), (aL, .inl (cI, 300, .inl fd_1)), (oG, .inr (0, [.ref g1, .ref g2, .int gn_1, .int lG_1])), (g1, .inl (cI, 6000, .inl fG1)), (g2, .inl (cI, 20, .inl fG2)), (oW, .inr (1, [.ref oC, .ref oK, .ref nw, .ref w1, .ref w2, .ref w3, .ref o7, .ref o8, .ref o9, .ref w4, .ref w5, .ref w6, .ref w7, .int ke, .int tl, .int fsh_3, .int wi, .int ri, .int fm, .int lm]))]) [0, 3, 4, 6, 1, 2, 5] rfl
    have hD9 := hD.sub (ws' := [(oX, .inr (11, [.ref nT, .ref nL, .ref nM, .ref oC, .ref oP, .ref oH, .ref oK, .ref oG, .ref oR, .ref oQ, .ref oW, .int fa])), (nL, .inr (5, [.ref aL, .int ld_1])), (aL, .inl (cI, 300, .inl fd_1)), (oG, .inr (0, [.ref g1, .ref g2, .int gn_1, .int lG_1])), (g1, .inl (cI, 6000, .inl fG1)), (g2, .inl (cI, 20, .inl fG2)), (oW, .inr (1, [.ref oC, .ref oK, .ref nw, .ref w1, .ref w2, .ref w3, .ref o7, .ref o8, .ref o9, .ref w4, .ref w5, .ref w6, .ref w7, .int ke, .int tl, .int fsh_3, .int wi, .int ri, .int fm, .int lm]))]) [0, 3, 4, 6, 1, 2, 5] (by decide) rfl
    rw [hQQ]
    exact W.iret (v := lG_1) hx hb hr (fun t ht hW => ⟨⟨lG_1, lG_1, rfl, rfl, ⟨ld_1, fd_1, fsh_3, gn_1, lG_1, by rw [ht]; exact hP9, hD9, by omega, by omega, by omega, by omega, ⟨r_1, hf1_4, Or.inl ⟨by omega, by first | rfl | omega⟩⟩, Or.inr ⟨by first | decide | omega, hf3_1⟩⟩⟩, hS.F ht⟩) hS.2.2 dX11_back_30
  · have tc_2 : r_1.toInt = 0 := v_eq c_2
    refine lv_iconst (v := (-1)) hx hb dX11_back_14 (by decide) ?_
    have hP9 := hP.sub (ws' := [(oX, .inr (11, [.ref nT, .ref nL, .ref nM, .ref oC, .ref oP, .ref oH, .ref oK, .ref oG, .ref oR, .ref oQ, .ref oW, .int fa])), (nL, .inr (5, [.ref aL, .int ld_1])), (aL, .inl (cI, 300, .inl fd_1)), (oG, .inr (0, [.ref g1, .ref g2, .int gn_1, .int lG_1])), (g1, .inl (cI, 6000, .inl fG1)), (g2, .inl (cI, 20, .inl fG2)), (oW, .inr (1, [.ref oC, .ref oK, .ref nw, .ref w1, .ref w2, .ref w3, .ref o7, .ref o8, .ref o9, .ref w4, .ref w5, .ref w6, .ref w7, .int ke, .int tl, .int fsh, .int wi, .int ri, .int fm, .int lm]))]) [0, 5, 6, 2, 3, 4, 1] rfl
    have hD9 := hD.sub (ws' := [(oX, .inr (11, [.ref nT, .ref nL, .ref nM, .ref oC, .ref oP, .ref oH, .ref oK, .ref oG, .ref oR, .ref oQ, .ref oW, .int fa])), (nL, .inr (5, [.ref aL, .int ld_1])), (aL, .inl (cI, 300, .inl fd_1)), (oG, .inr (0, [.ref g1, .ref g2, .int gn_1, .int lG_1])), (g1, .inl (cI, 6000, .inl fG1)), (g2, .inl (cI, 20, .inl fG2)), (oW, .inr (1, [.ref oC, .ref oK, .ref nw, .ref w1, .ref w2, .ref w3, .ref o7, .ref o8, .ref o9, .ref w4, .ref w5, .ref w6, .ref w7, .int ke, .int tl, .int fsh, .int wi, .int ri, .int fm, .int lm]))]) [0, 5, 6, 2, 3, 4, 1] (by decide) rfl
    rw [hQQ]
    exact W.iret (v := (-1)) hx hb hr (fun t ht hW => ⟨⟨(-1), (-1), rfl, rfl, ⟨ld_1, fd_1, fsh, gn_1, lG_1, by rw [ht]; exact hP9, hD9, by omega, by omega, by omega, by omega, ⟨r_1, hf1_4, Or.inr ⟨by omega, rfl⟩⟩, Or.inl ⟨by first | rfl | omega, rfl⟩⟩⟩, hS.F ht⟩) hS.2.2 dX11_back_15
